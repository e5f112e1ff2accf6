theorem in_le7 {x : Int32} (h : INR x 0 7) : x = 0 ∨ x = 1 ∨ x = 2 ∨ x = 3 ∨ x = 4 ∨ x = 5 ∨ x = 6 ∨ x = 7 := by
  obtain ⟨n, a, b, rfl⟩ := ofR (x := x) (a := 0) (b := 7) (by decide) (by decide) h
  rcases (show n = 0 ∨ n = 1 ∨ n = 2 ∨ n = 3 ∨ n = 4 ∨ n = 5 ∨ n = 6 ∨ n = 7 by omega) with rfl | rfl | rfl | rfl | rfl | rfl | rfl | rfl
  · exact Or.inl rfl
  · exact Or.inr (Or.inl rfl)
  · exact Or.inr (Or.inr (Or.inl rfl))
  · exact Or.inr (Or.inr (Or.inr (Or.inl rfl)))
  · exact Or.inr (Or.inr (Or.inr (Or.inr (Or.inl rfl))))
  · exact Or.inr (Or.inr (Or.inr (Or.inr (Or.inr (Or.inl rfl)))))
  · exact Or.inr (Or.inr (Or.inr (Or.inr (Or.inr (Or.inr (Or.inl rfl))))))
  · exact Or.inr (Or.inr (Or.inr (Or.inr (Or.inr (Or.inr (Or.inr rfl))))))
theorem in_le4 {x : Int32} (h : INR x 0 4) : x = 0 ∨ x = 1 ∨ x = 2 ∨ x = 3 ∨ x = 4 := by
  obtain ⟨n, a, b, rfl⟩ := ofR (x := x) (a := 0) (b := 4) (by decide) (by decide) h
  rcases (show n = 0 ∨ n = 1 ∨ n = 2 ∨ n = 3 ∨ n = 4 by omega) with rfl | rfl | rfl | rfl | rfl
  · exact Or.inl rfl
  · exact Or.inr (Or.inl rfl)
  · exact Or.inr (Or.inr (Or.inl rfl))
  · exact Or.inr (Or.inr (Or.inr (Or.inl rfl)))
  · exact Or.inr (Or.inr (Or.inr (Or.inr rfl)))
theorem in_le11 {x : Int32} (h : INR x 0 11) : x = 0 ∨ x = 1 ∨ x = 2 ∨ x = 3 ∨ x = 4 ∨ x = 5 ∨ x = 6 ∨ x = 7 ∨ x = 8 ∨ x = 9 ∨ x = 10 ∨ x = 11 := by
  obtain ⟨n, a, b, rfl⟩ := ofR (x := x) (a := 0) (b := 11) (by decide) (by decide) h
  rcases (show n = 0 ∨ n = 1 ∨ n = 2 ∨ n = 3 ∨ n = 4 ∨ n = 5 ∨ n = 6 ∨ n = 7 ∨ n = 8 ∨ n = 9 ∨ n = 10 ∨ n = 11 by omega) with rfl | rfl | rfl | rfl | rfl | rfl | rfl | rfl | rfl | rfl | rfl | rfl
  · exact Or.inl rfl
  · exact Or.inr (Or.inl rfl)
  · exact Or.inr (Or.inr (Or.inl rfl))
  · exact Or.inr (Or.inr (Or.inr (Or.inl rfl)))
  · exact Or.inr (Or.inr (Or.inr (Or.inr (Or.inl rfl))))
  · exact Or.inr (Or.inr (Or.inr (Or.inr (Or.inr (Or.inl rfl)))))
  · exact Or.inr (Or.inr (Or.inr (Or.inr (Or.inr (Or.inr (Or.inl rfl))))))
  · exact Or.inr (Or.inr (Or.inr (Or.inr (Or.inr (Or.inr (Or.inr (Or.inl rfl)))))))
  · exact Or.inr (Or.inr (Or.inr (Or.inr (Or.inr (Or.inr (Or.inr (Or.inr (Or.inl rfl))))))))
  · exact Or.inr (Or.inr (Or.inr (Or.inr (Or.inr (Or.inr (Or.inr (Or.inr (Or.inr (Or.inl rfl)))))))))
  · exact Or.inr (Or.inr (Or.inr (Or.inr (Or.inr (Or.inr (Or.inr (Or.inr (Or.inr (Or.inr (Or.inl rfl))))))))))
  · exact Or.inr (Or.inr (Or.inr (Or.inr (Or.inr (Or.inr (Or.inr (Or.inr (Or.inr (Or.inr (Or.inr rfl))))))))))
theorem in_lt21 {x : Int32} (h : ¬ x < 0 ∧ ¬ nI 21 ≤ x) : x = 0 ∨ x = 1 ∨ x = 2 ∨ x = 3 ∨ x = 4 ∨ x = 5 ∨ x = 6 ∨ x = 7 ∨ x = 8 ∨ x = 9 ∨ x = 10 ∨ x = 11 ∨ x = 12 ∨ x = 13 ∨ x = 14 ∨ x = 15 ∨ x = 16 ∨ x = 17 ∨ x = 18 ∨ x = 19 ∨ x = 20 := by
  obtain ⟨n, b, rfl⟩ := i32_in (n := 21) h.1 h.2 (by decide)
  rcases (show n ≤ 11 ∨ n = 12 ∨ n = 13 ∨ n = 14 ∨ n = 15 ∨ n = 16 ∨ n = 17 ∨ n = 18 ∨ n = 19 ∨ n = 20 by omega) with q | rfl | rfl | rfl | rfl | rfl | rfl | rfl | rfl | rfl
  · rcases in_le11 (x := nI n) ⟨nI_pos (by omega), nI_nlt (b := n) (a := 11) q (by decide)⟩ with e | e | e | e | e | e | e | e | e | e | e | e <;> rw [e] <;> decide
  · decide
  · decide
  · decide
  · decide
  · decide
  · decide
  · decide
  · decide
  · decide
theorem LegR.off {p d : Nat → Int32} {l k : Nat} (h : LegR p d l k) (hk : k < 2 ^ 28) (hd : d 0 = nI k) : p 2 = if d (l + 2) = -1 then d 0 else d (l + 2) := by
  obtain ⟨h0, h1, h3, h4, h5, h6, h7, h8, a, b, ha, hb, hab, hs⟩ := h
  rcases hs with ⟨g0, g1, g2, g3⟩ | ⟨g0, s, g1, g2, g3, g4⟩
  · rw [if_pos g1, g2, hd]
  · rw [g2, if_neg (nI_ne_m1 (by omega)), g3]
theorem drvNF {b d : Nat → Int32} {L : Nat} (h : LoR b d L) : (if b 9 = 2 then (-2000000004 : Int32) else b 9) = if d (L + 9) = 9 then (-2000000004 : Int32) else d (L + 9) := by
  obtain ⟨h4, h5, h6, h7, h8, h9, -⟩ := h
  rcases h9 with ⟨a, b'⟩ | ⟨a, b'⟩
  · rw [a, b', if_pos rfl, if_pos rfl]
  · rw [← a]
    rcases b' with c | c | c <;> rw [c] <;> decide
theorem P_leg {l : Launch} {E : Ev} {I : SI} {L : SL} (h : Rel I L) (leg : Int32) (what : Int32) : PR l E yX8_leg yX9_leg wsX8_leg wsX9_leg [.int leg, .int what] I L := by
  have h' := h
  obtain ⟨k, o, kp, n, hC, h2, h8⟩ := h
  have hB := hC.1
  have hR := hB.1
  have hk := hB.2.1
  have hisb := hR.isb
  obtain ⟨ho4, hkp, ho, hkk, hH⟩ := hC.2.1
  by_cases t : IN3 leg ∧ INR what 0 7
  · rcases in_le3 t.1 with rfl | rfl | rfl | rfl <;> rcases in_le7 t.2 with rfl | rfl | rfl | rfl | rfl | rfl | rfl | rfl
    · exact LK h' (k_X8_leg_0_0 (I := I) (L := L) l E _ rfl) (k_X9_leg_0_0 (I := I) (L := L) l E _ rfl) ⟨rfl, rfl, Nat.le_of_ble_eq_true rfl, Nat.le_of_ble_eq_true rfl⟩ ⟨rfl, rfl, Nat.le_of_ble_eq_true rfl, Nat.le_of_ble_eq_true rfl⟩ (hR.2.2.2.1.1.1)
    · exact LK h' (k_X8_leg_0_1 (I := I) (L := L) l E _ rfl) (k_X9_leg_0_1 (I := I) (L := L) l E _ rfl) ⟨rfl, rfl, Nat.le_of_ble_eq_true rfl, Nat.le_of_ble_eq_true rfl⟩ ⟨rfl, rfl, Nat.le_of_ble_eq_true rfl, Nat.le_of_ble_eq_true rfl⟩ (hR.2.2.2.1.1.2.1)
    · exact LK h' (k_X8_leg_0_2 (I := I) (L := L) l E _ _ _ _ rfl rfl rfl rfl) (k_X9_leg_0_2 (I := I) (L := L) l E _ rfl) ⟨rfl, rfl, Nat.le_of_ble_eq_true rfl, Nat.le_of_ble_eq_true rfl⟩ ⟨rfl, rfl, Nat.le_of_ble_eq_true rfl, Nat.le_of_ble_eq_true rfl⟩ (wish0 hR.2.2.2.1.2.2.2.2 hR.2.2.2.1.2.2.1.2.2.2.1 hR.2.2.2.1.2.2.1.2.2.2.2.2.2.2.2.1 hR.2.2.2.1.1.1 hR.2.2.2.1.2.1.1 rfl)
    · exact LK h' (k_X8_leg_0_3 (I := I) (L := L) l E _ rfl) (k_X9_leg_0_3 (I := I) (L := L) l E _ rfl) ⟨rfl, rfl, Nat.le_of_ble_eq_true rfl, Nat.le_of_ble_eq_true rfl⟩ ⟨rfl, rfl, Nat.le_of_ble_eq_true rfl, Nat.le_of_ble_eq_true rfl⟩ (LegR.off hR.2.2.2.1.1 (by omega) hR.2.1)
    · exact LK h' (k_X8_leg_0_4 (I := I) (L := L) l E _ rfl) (k_X9_leg_0_4 (I := I) (L := L) l E _ rfl) ⟨rfl, rfl, Nat.le_of_ble_eq_true rfl, Nat.le_of_ble_eq_true rfl⟩ ⟨rfl, rfl, Nat.le_of_ble_eq_true rfl, Nat.le_of_ble_eq_true rfl⟩ (hR.2.2.2.1.1.2.2.1)
    · exact LK h' (k_X8_leg_0_5 (I := I) (L := L) l E _ rfl) (k_X9_leg_0_5 (I := I) (L := L) l E _ rfl) ⟨rfl, rfl, Nat.le_of_ble_eq_true rfl, Nat.le_of_ble_eq_true rfl⟩ ⟨rfl, rfl, Nat.le_of_ble_eq_true rfl, Nat.le_of_ble_eq_true rfl⟩ (hR.2.2.2.1.1.2.2.2.1)
    · exact LK h' (k_X8_leg_0_6 (I := I) (L := L) l E _ rfl) (k_X9_leg_0_6 (I := I) (L := L) l E _ rfl) ⟨rfl, rfl, Nat.le_of_ble_eq_true rfl, Nat.le_of_ble_eq_true rfl⟩ ⟨rfl, rfl, Nat.le_of_ble_eq_true rfl, Nat.le_of_ble_eq_true rfl⟩ (hR.2.2.2.1.1.2.2.2.2.1)
    · exact LK h' (k_X8_leg_0_7 (I := I) (L := L) l E _ rfl) (k_X9_leg_0_7 (I := I) (L := L) l E _ rfl) ⟨rfl, rfl, Nat.le_of_ble_eq_true rfl, Nat.le_of_ble_eq_true rfl⟩ ⟨rfl, rfl, Nat.le_of_ble_eq_true rfl, Nat.le_of_ble_eq_true rfl⟩ (hR.2.2.2.1.1.2.2.2.2.2.1)
    · exact LK h' (k_X8_leg_1_0 (I := I) (L := L) l E _ rfl) (k_X9_leg_1_0 (I := I) (L := L) l E _ rfl) ⟨rfl, rfl, Nat.le_of_ble_eq_true rfl, Nat.le_of_ble_eq_true rfl⟩ ⟨rfl, rfl, Nat.le_of_ble_eq_true rfl, Nat.le_of_ble_eq_true rfl⟩ (hR.2.2.2.1.2.1.1)
    · exact LK h' (k_X8_leg_1_1 (I := I) (L := L) l E _ rfl) (k_X9_leg_1_1 (I := I) (L := L) l E _ rfl) ⟨rfl, rfl, Nat.le_of_ble_eq_true rfl, Nat.le_of_ble_eq_true rfl⟩ ⟨rfl, rfl, Nat.le_of_ble_eq_true rfl, Nat.le_of_ble_eq_true rfl⟩ (hR.2.2.2.1.2.1.2.1)
    · exact LK h' (k_X8_leg_1_2 (I := I) (L := L) l E _ _ _ _ rfl rfl rfl rfl) (k_X9_leg_1_2 (I := I) (L := L) l E _ rfl) ⟨rfl, rfl, Nat.le_of_ble_eq_true rfl, Nat.le_of_ble_eq_true rfl⟩ ⟨rfl, rfl, Nat.le_of_ble_eq_true rfl, Nat.le_of_ble_eq_true rfl⟩ (wish1 hR.2.2.2.1.2.2.2.2 hR.2.2.2.1.2.1.1 (by decide))
    · exact LK h' (k_X8_leg_1_3 (I := I) (L := L) l E _ rfl) (k_X9_leg_1_3 (I := I) (L := L) l E _ rfl) ⟨rfl, rfl, Nat.le_of_ble_eq_true rfl, Nat.le_of_ble_eq_true rfl⟩ ⟨rfl, rfl, Nat.le_of_ble_eq_true rfl, Nat.le_of_ble_eq_true rfl⟩ (LegR.off hR.2.2.2.1.2.1 (by omega) hR.2.1)
    · exact LK h' (k_X8_leg_1_4 (I := I) (L := L) l E _ rfl) (k_X9_leg_1_4 (I := I) (L := L) l E _ rfl) ⟨rfl, rfl, Nat.le_of_ble_eq_true rfl, Nat.le_of_ble_eq_true rfl⟩ ⟨rfl, rfl, Nat.le_of_ble_eq_true rfl, Nat.le_of_ble_eq_true rfl⟩ (hR.2.2.2.1.2.1.2.2.1)
    · exact LK h' (k_X8_leg_1_5 (I := I) (L := L) l E _ rfl) (k_X9_leg_1_5 (I := I) (L := L) l E _ rfl) ⟨rfl, rfl, Nat.le_of_ble_eq_true rfl, Nat.le_of_ble_eq_true rfl⟩ ⟨rfl, rfl, Nat.le_of_ble_eq_true rfl, Nat.le_of_ble_eq_true rfl⟩ (hR.2.2.2.1.2.1.2.2.2.1)
    · exact LK h' (k_X8_leg_1_6 (I := I) (L := L) l E _ rfl) (k_X9_leg_1_6 (I := I) (L := L) l E _ rfl) ⟨rfl, rfl, Nat.le_of_ble_eq_true rfl, Nat.le_of_ble_eq_true rfl⟩ ⟨rfl, rfl, Nat.le_of_ble_eq_true rfl, Nat.le_of_ble_eq_true rfl⟩ (hR.2.2.2.1.2.1.2.2.2.2.1)
    · exact LK h' (k_X8_leg_1_7 (I := I) (L := L) l E _ rfl) (k_X9_leg_1_7 (I := I) (L := L) l E _ rfl) ⟨rfl, rfl, Nat.le_of_ble_eq_true rfl, Nat.le_of_ble_eq_true rfl⟩ ⟨rfl, rfl, Nat.le_of_ble_eq_true rfl, Nat.le_of_ble_eq_true rfl⟩ (hR.2.2.2.1.2.1.2.2.2.2.2.1)
    · exact LK h' (k_X8_leg_2_0 (I := I) (L := L) l E _ rfl) (k_X9_leg_2_0 (I := I) (L := L) l E _ rfl) ⟨rfl, rfl, Nat.le_of_ble_eq_true rfl, Nat.le_of_ble_eq_true rfl⟩ ⟨rfl, rfl, Nat.le_of_ble_eq_true rfl, Nat.le_of_ble_eq_true rfl⟩ (hR.2.2.2.2.1.1.1)
    · exact LK h' (k_X8_leg_2_1 (I := I) (L := L) l E _ rfl) (k_X9_leg_2_1 (I := I) (L := L) l E _ rfl) ⟨rfl, rfl, Nat.le_of_ble_eq_true rfl, Nat.le_of_ble_eq_true rfl⟩ ⟨rfl, rfl, Nat.le_of_ble_eq_true rfl, Nat.le_of_ble_eq_true rfl⟩ (hR.2.2.2.2.1.1.2.1)
    · exact LK h' (k_X8_leg_2_2 (I := I) (L := L) l E _ _ _ _ rfl rfl rfl rfl) (k_X9_leg_2_2 (I := I) (L := L) l E _ rfl) ⟨rfl, rfl, Nat.le_of_ble_eq_true rfl, Nat.le_of_ble_eq_true rfl⟩ ⟨rfl, rfl, Nat.le_of_ble_eq_true rfl, Nat.le_of_ble_eq_true rfl⟩ (wish0 hR.2.2.2.2.1.2.2.2.2 hR.2.2.2.2.1.2.2.1.2.2.2.1 hR.2.2.2.2.1.2.2.1.2.2.2.2.2.2.2.2.1 hR.2.2.2.2.1.1.1 hR.2.2.2.2.1.2.1.1 rfl)
    · exact LK h' (k_X8_leg_2_3 (I := I) (L := L) l E _ rfl) (k_X9_leg_2_3 (I := I) (L := L) l E _ rfl) ⟨rfl, rfl, Nat.le_of_ble_eq_true rfl, Nat.le_of_ble_eq_true rfl⟩ ⟨rfl, rfl, Nat.le_of_ble_eq_true rfl, Nat.le_of_ble_eq_true rfl⟩ (LegR.off hR.2.2.2.2.1.1 (by omega) hR.2.1)
    · exact LK h' (k_X8_leg_2_4 (I := I) (L := L) l E _ rfl) (k_X9_leg_2_4 (I := I) (L := L) l E _ rfl) ⟨rfl, rfl, Nat.le_of_ble_eq_true rfl, Nat.le_of_ble_eq_true rfl⟩ ⟨rfl, rfl, Nat.le_of_ble_eq_true rfl, Nat.le_of_ble_eq_true rfl⟩ (hR.2.2.2.2.1.1.2.2.1)
    · exact LK h' (k_X8_leg_2_5 (I := I) (L := L) l E _ rfl) (k_X9_leg_2_5 (I := I) (L := L) l E _ rfl) ⟨rfl, rfl, Nat.le_of_ble_eq_true rfl, Nat.le_of_ble_eq_true rfl⟩ ⟨rfl, rfl, Nat.le_of_ble_eq_true rfl, Nat.le_of_ble_eq_true rfl⟩ (hR.2.2.2.2.1.1.2.2.2.1)
    · exact LK h' (k_X8_leg_2_6 (I := I) (L := L) l E _ rfl) (k_X9_leg_2_6 (I := I) (L := L) l E _ rfl) ⟨rfl, rfl, Nat.le_of_ble_eq_true rfl, Nat.le_of_ble_eq_true rfl⟩ ⟨rfl, rfl, Nat.le_of_ble_eq_true rfl, Nat.le_of_ble_eq_true rfl⟩ (hR.2.2.2.2.1.1.2.2.2.2.1)
    · exact LK h' (k_X8_leg_2_7 (I := I) (L := L) l E _ rfl) (k_X9_leg_2_7 (I := I) (L := L) l E _ rfl) ⟨rfl, rfl, Nat.le_of_ble_eq_true rfl, Nat.le_of_ble_eq_true rfl⟩ ⟨rfl, rfl, Nat.le_of_ble_eq_true rfl, Nat.le_of_ble_eq_true rfl⟩ (hR.2.2.2.2.1.1.2.2.2.2.2.1)
    · exact LK h' (k_X8_leg_3_0 (I := I) (L := L) l E _ rfl) (k_X9_leg_3_0 (I := I) (L := L) l E _ rfl) ⟨rfl, rfl, Nat.le_of_ble_eq_true rfl, Nat.le_of_ble_eq_true rfl⟩ ⟨rfl, rfl, Nat.le_of_ble_eq_true rfl, Nat.le_of_ble_eq_true rfl⟩ (hR.2.2.2.2.1.2.1.1)
    · exact LK h' (k_X8_leg_3_1 (I := I) (L := L) l E _ rfl) (k_X9_leg_3_1 (I := I) (L := L) l E _ rfl) ⟨rfl, rfl, Nat.le_of_ble_eq_true rfl, Nat.le_of_ble_eq_true rfl⟩ ⟨rfl, rfl, Nat.le_of_ble_eq_true rfl, Nat.le_of_ble_eq_true rfl⟩ (hR.2.2.2.2.1.2.1.2.1)
    · exact LK h' (k_X8_leg_3_2 (I := I) (L := L) l E _ _ _ _ rfl rfl rfl rfl) (k_X9_leg_3_2 (I := I) (L := L) l E _ rfl) ⟨rfl, rfl, Nat.le_of_ble_eq_true rfl, Nat.le_of_ble_eq_true rfl⟩ ⟨rfl, rfl, Nat.le_of_ble_eq_true rfl, Nat.le_of_ble_eq_true rfl⟩ (wish1 hR.2.2.2.2.1.2.2.2.2 hR.2.2.2.2.1.2.1.1 (by decide))
    · exact LK h' (k_X8_leg_3_3 (I := I) (L := L) l E _ rfl) (k_X9_leg_3_3 (I := I) (L := L) l E _ rfl) ⟨rfl, rfl, Nat.le_of_ble_eq_true rfl, Nat.le_of_ble_eq_true rfl⟩ ⟨rfl, rfl, Nat.le_of_ble_eq_true rfl, Nat.le_of_ble_eq_true rfl⟩ (LegR.off hR.2.2.2.2.1.2.1 (by omega) hR.2.1)
    · exact LK h' (k_X8_leg_3_4 (I := I) (L := L) l E _ rfl) (k_X9_leg_3_4 (I := I) (L := L) l E _ rfl) ⟨rfl, rfl, Nat.le_of_ble_eq_true rfl, Nat.le_of_ble_eq_true rfl⟩ ⟨rfl, rfl, Nat.le_of_ble_eq_true rfl, Nat.le_of_ble_eq_true rfl⟩ (hR.2.2.2.2.1.2.1.2.2.1)
    · exact LK h' (k_X8_leg_3_5 (I := I) (L := L) l E _ rfl) (k_X9_leg_3_5 (I := I) (L := L) l E _ rfl) ⟨rfl, rfl, Nat.le_of_ble_eq_true rfl, Nat.le_of_ble_eq_true rfl⟩ ⟨rfl, rfl, Nat.le_of_ble_eq_true rfl, Nat.le_of_ble_eq_true rfl⟩ (hR.2.2.2.2.1.2.1.2.2.2.1)
    · exact LK h' (k_X8_leg_3_6 (I := I) (L := L) l E _ rfl) (k_X9_leg_3_6 (I := I) (L := L) l E _ rfl) ⟨rfl, rfl, Nat.le_of_ble_eq_true rfl, Nat.le_of_ble_eq_true rfl⟩ ⟨rfl, rfl, Nat.le_of_ble_eq_true rfl, Nat.le_of_ble_eq_true rfl⟩ (hR.2.2.2.2.1.2.1.2.2.2.2.1)
    · exact LK h' (k_X8_leg_3_7 (I := I) (L := L) l E _ rfl) (k_X9_leg_3_7 (I := I) (L := L) l E _ rfl) ⟨rfl, rfl, Nat.le_of_ble_eq_true rfl, Nat.le_of_ble_eq_true rfl⟩ ⟨rfl, rfl, Nat.le_of_ble_eq_true rfl, Nat.le_of_ble_eq_true rfl⟩ (hR.2.2.2.2.1.2.1.2.2.2.2.2.1)
  · exact LK h' (k_X8_leg_no (I := I) (L := L) l E leg what t) (k_X9_leg_no (I := I) (L := L) l E leg what t) ⟨rfl, rfl, Nat.le_of_ble_eq_true rfl, Nat.le_of_ble_eq_true rfl⟩ ⟨rfl, rfl, Nat.le_of_ble_eq_true rfl, Nat.le_of_ble_eq_true rfl⟩ (rfl)
theorem P_load {l : Launch} {E : Ev} {I : SI} {L : SL} (h : Rel I L) (load : Int32) (what : Int32) : PR l E yX8_load yX9_load wsX8_load wsX9_load [.int load, .int what] I L := by
  have h' := h
  obtain ⟨k, o, kp, n, hC, h2, h8⟩ := h
  have hB := hC.1
  have hR := hB.1
  have hk := hB.2.1
  have hisb := hR.isb
  obtain ⟨ho4, hkp, ho, hkk, hH⟩ := hC.2.1
  by_cases t : IN1 load ∧ INR what 0 11
  · rcases in_le1 t.1 with rfl | rfl <;> rcases in_le11 t.2 with rfl | rfl | rfl | rfl | rfl | rfl | rfl | rfl | rfl | rfl | rfl | rfl
    · exact LK h' (k_X8_load_0_0 (I := I) (L := L) l E _ rfl) (k_X9_load_0_0 (I := I) (L := L) l E _ rfl) ⟨rfl, rfl, Nat.le_of_ble_eq_true rfl, Nat.le_of_ble_eq_true rfl⟩ ⟨rfl, rfl, Nat.le_of_ble_eq_true rfl, Nat.le_of_ble_eq_true rfl⟩ (hR.2.2.2.1.2.2.2.1.1 0 (by decide))
    · exact LK h' (k_X8_load_0_1 (I := I) (L := L) l E _ rfl) (k_X9_load_0_1 (I := I) (L := L) l E _ rfl) ⟨rfl, rfl, Nat.le_of_ble_eq_true rfl, Nat.le_of_ble_eq_true rfl⟩ ⟨rfl, rfl, Nat.le_of_ble_eq_true rfl, Nat.le_of_ble_eq_true rfl⟩ (hR.2.2.2.1.2.2.2.1.1 1 (by decide))
    · exact LK h' (k_X8_load_0_2 (I := I) (L := L) l E _ rfl) (k_X9_load_0_2 (I := I) (L := L) l E _ rfl) ⟨rfl, rfl, Nat.le_of_ble_eq_true rfl, Nat.le_of_ble_eq_true rfl⟩ ⟨rfl, rfl, Nat.le_of_ble_eq_true rfl, Nat.le_of_ble_eq_true rfl⟩ (hR.2.2.2.1.2.2.2.1.1 2 (by decide))
    · exact LK h' (k_X8_load_0_3 (I := I) (L := L) l E _ rfl) (k_X9_load_0_3 (I := I) (L := L) l E _ rfl) ⟨rfl, rfl, Nat.le_of_ble_eq_true rfl, Nat.le_of_ble_eq_true rfl⟩ ⟨rfl, rfl, Nat.le_of_ble_eq_true rfl, Nat.le_of_ble_eq_true rfl⟩ (hR.2.2.2.1.2.2.2.1.1 3 (by decide))
    · exact LK h' (k_X8_load_0_4 (I := I) (L := L) l E _ rfl) (k_X9_load_0_4 (I := I) (L := L) l E _ rfl) ⟨rfl, rfl, Nat.le_of_ble_eq_true rfl, Nat.le_of_ble_eq_true rfl⟩ ⟨rfl, rfl, Nat.le_of_ble_eq_true rfl, Nat.le_of_ble_eq_true rfl⟩ (hR.2.2.2.1.2.2.1.1)
    · exact LK h' (k_X8_load_0_5 (I := I) (L := L) l E _ rfl) (k_X9_load_0_5 (I := I) (L := L) l E _ rfl) ⟨rfl, rfl, Nat.le_of_ble_eq_true rfl, Nat.le_of_ble_eq_true rfl⟩ ⟨rfl, rfl, Nat.le_of_ble_eq_true rfl, Nat.le_of_ble_eq_true rfl⟩ (hR.2.2.2.1.2.2.1.2.1)
    · exact LK h' (k_X8_load_0_6 (I := I) (L := L) l E _ rfl ((hisb 1 (by decide)).1)) (k_X9_load_0_6 (I := I) (L := L) l E _ rfl) ⟨rfl, rfl, Nat.le_of_ble_eq_true rfl, Nat.le_of_ble_eq_true rfl⟩ ⟨rfl, rfl, Nat.le_of_ble_eq_true rfl, Nat.le_of_ble_eq_true rfl⟩ (hR.2.2.2.1.2.2.1.2.2.1)
    · exact LK h' (k_X8_load_0_7 (I := I) (L := L) l E _ rfl ((hisb 1 (by decide)).2.1)) (k_X9_load_0_7 (I := I) (L := L) l E _ rfl) ⟨rfl, rfl, Nat.le_of_ble_eq_true rfl, Nat.le_of_ble_eq_true rfl⟩ ⟨rfl, rfl, Nat.le_of_ble_eq_true rfl, Nat.le_of_ble_eq_true rfl⟩ (hR.2.2.2.1.2.2.1.2.2.2.1)
    · exact LK h' (k_X8_load_0_8 (I := I) (L := L) l E _ rfl) (k_X9_load_0_8 (I := I) (L := L) l E _ rfl) ⟨rfl, rfl, Nat.le_of_ble_eq_true rfl, Nat.le_of_ble_eq_true rfl⟩ ⟨rfl, rfl, Nat.le_of_ble_eq_true rfl, Nat.le_of_ble_eq_true rfl⟩ (hR.2.2.2.1.2.2.1.2.2.2.2.1)
    · exact LK h' (k_X8_load_0_9 (I := I) (L := L) l E _ rfl) (k_X9_load_0_9 (I := I) (L := L) l E _ rfl) ⟨rfl, rfl, Nat.le_of_ble_eq_true rfl, Nat.le_of_ble_eq_true rfl⟩ ⟨rfl, rfl, Nat.le_of_ble_eq_true rfl, Nat.le_of_ble_eq_true rfl⟩ (drvNF hR.2.2.2.1.2.2.1)
    · exact LK h' (k_X8_load_0_10 (I := I) (L := L) l E _ rfl) (k_X9_load_0_10 (I := I) (L := L) l E _ rfl) ⟨rfl, rfl, Nat.le_of_ble_eq_true rfl, Nat.le_of_ble_eq_true rfl⟩ ⟨rfl, rfl, Nat.le_of_ble_eq_true rfl, Nat.le_of_ble_eq_true rfl⟩ (hR.2.2.2.1.2.2.2.2.1)
    · exact LK h' (k_X8_load_0_11 (I := I) (L := L) l E _ rfl) (k_X9_load_0_11 (I := I) (L := L) l E _ rfl) ⟨rfl, rfl, Nat.le_of_ble_eq_true rfl, Nat.le_of_ble_eq_true rfl⟩ ⟨rfl, rfl, Nat.le_of_ble_eq_true rfl, Nat.le_of_ble_eq_true rfl⟩ (hR.2.2.2.1.2.2.1.2.2.2.2.2.2.1)
    · exact LK h' (k_X8_load_1_0 (I := I) (L := L) l E _ rfl) (k_X9_load_1_0 (I := I) (L := L) l E _ rfl) ⟨rfl, rfl, Nat.le_of_ble_eq_true rfl, Nat.le_of_ble_eq_true rfl⟩ ⟨rfl, rfl, Nat.le_of_ble_eq_true rfl, Nat.le_of_ble_eq_true rfl⟩ (hR.2.2.2.2.1.2.2.2.1.1 0 (by decide))
    · exact LK h' (k_X8_load_1_1 (I := I) (L := L) l E _ rfl) (k_X9_load_1_1 (I := I) (L := L) l E _ rfl) ⟨rfl, rfl, Nat.le_of_ble_eq_true rfl, Nat.le_of_ble_eq_true rfl⟩ ⟨rfl, rfl, Nat.le_of_ble_eq_true rfl, Nat.le_of_ble_eq_true rfl⟩ (hR.2.2.2.2.1.2.2.2.1.1 1 (by decide))
    · exact LK h' (k_X8_load_1_2 (I := I) (L := L) l E _ rfl) (k_X9_load_1_2 (I := I) (L := L) l E _ rfl) ⟨rfl, rfl, Nat.le_of_ble_eq_true rfl, Nat.le_of_ble_eq_true rfl⟩ ⟨rfl, rfl, Nat.le_of_ble_eq_true rfl, Nat.le_of_ble_eq_true rfl⟩ (hR.2.2.2.2.1.2.2.2.1.1 2 (by decide))
    · exact LK h' (k_X8_load_1_3 (I := I) (L := L) l E _ rfl) (k_X9_load_1_3 (I := I) (L := L) l E _ rfl) ⟨rfl, rfl, Nat.le_of_ble_eq_true rfl, Nat.le_of_ble_eq_true rfl⟩ ⟨rfl, rfl, Nat.le_of_ble_eq_true rfl, Nat.le_of_ble_eq_true rfl⟩ (hR.2.2.2.2.1.2.2.2.1.1 3 (by decide))
    · exact LK h' (k_X8_load_1_4 (I := I) (L := L) l E _ rfl) (k_X9_load_1_4 (I := I) (L := L) l E _ rfl) ⟨rfl, rfl, Nat.le_of_ble_eq_true rfl, Nat.le_of_ble_eq_true rfl⟩ ⟨rfl, rfl, Nat.le_of_ble_eq_true rfl, Nat.le_of_ble_eq_true rfl⟩ (hR.2.2.2.2.1.2.2.1.1)
    · exact LK h' (k_X8_load_1_5 (I := I) (L := L) l E _ rfl) (k_X9_load_1_5 (I := I) (L := L) l E _ rfl) ⟨rfl, rfl, Nat.le_of_ble_eq_true rfl, Nat.le_of_ble_eq_true rfl⟩ ⟨rfl, rfl, Nat.le_of_ble_eq_true rfl, Nat.le_of_ble_eq_true rfl⟩ (hR.2.2.2.2.1.2.2.1.2.1)
    · exact LK h' (k_X8_load_1_6 (I := I) (L := L) l E _ rfl ((hisb 10 (by decide)).1)) (k_X9_load_1_6 (I := I) (L := L) l E _ rfl) ⟨rfl, rfl, Nat.le_of_ble_eq_true rfl, Nat.le_of_ble_eq_true rfl⟩ ⟨rfl, rfl, Nat.le_of_ble_eq_true rfl, Nat.le_of_ble_eq_true rfl⟩ (hR.2.2.2.2.1.2.2.1.2.2.1)
    · exact LK h' (k_X8_load_1_7 (I := I) (L := L) l E _ rfl ((hisb 10 (by decide)).2.1)) (k_X9_load_1_7 (I := I) (L := L) l E _ rfl) ⟨rfl, rfl, Nat.le_of_ble_eq_true rfl, Nat.le_of_ble_eq_true rfl⟩ ⟨rfl, rfl, Nat.le_of_ble_eq_true rfl, Nat.le_of_ble_eq_true rfl⟩ (hR.2.2.2.2.1.2.2.1.2.2.2.1)
    · exact LK h' (k_X8_load_1_8 (I := I) (L := L) l E _ rfl) (k_X9_load_1_8 (I := I) (L := L) l E _ rfl) ⟨rfl, rfl, Nat.le_of_ble_eq_true rfl, Nat.le_of_ble_eq_true rfl⟩ ⟨rfl, rfl, Nat.le_of_ble_eq_true rfl, Nat.le_of_ble_eq_true rfl⟩ (hR.2.2.2.2.1.2.2.1.2.2.2.2.1)
    · exact LK h' (k_X8_load_1_9 (I := I) (L := L) l E _ rfl) (k_X9_load_1_9 (I := I) (L := L) l E _ rfl) ⟨rfl, rfl, Nat.le_of_ble_eq_true rfl, Nat.le_of_ble_eq_true rfl⟩ ⟨rfl, rfl, Nat.le_of_ble_eq_true rfl, Nat.le_of_ble_eq_true rfl⟩ (drvNF hR.2.2.2.2.1.2.2.1)
    · exact LK h' (k_X8_load_1_10 (I := I) (L := L) l E _ rfl) (k_X9_load_1_10 (I := I) (L := L) l E _ rfl) ⟨rfl, rfl, Nat.le_of_ble_eq_true rfl, Nat.le_of_ble_eq_true rfl⟩ ⟨rfl, rfl, Nat.le_of_ble_eq_true rfl, Nat.le_of_ble_eq_true rfl⟩ (hR.2.2.2.2.1.2.2.2.2.1)
    · exact LK h' (k_X8_load_1_11 (I := I) (L := L) l E _ rfl) (k_X9_load_1_11 (I := I) (L := L) l E _ rfl) ⟨rfl, rfl, Nat.le_of_ble_eq_true rfl, Nat.le_of_ble_eq_true rfl⟩ ⟨rfl, rfl, Nat.le_of_ble_eq_true rfl, Nat.le_of_ble_eq_true rfl⟩ (hR.2.2.2.2.1.2.2.1.2.2.2.2.2.2.1)
  · exact LK h' (k_X8_load_no (I := I) (L := L) l E load what t) (k_X9_load_no (I := I) (L := L) l E load what t) ⟨rfl, rfl, Nat.le_of_ble_eq_true rfl, Nat.le_of_ble_eq_true rfl⟩ ⟨rfl, rfl, Nat.le_of_ble_eq_true rfl, Nat.le_of_ble_eq_true rfl⟩ (rfl)
