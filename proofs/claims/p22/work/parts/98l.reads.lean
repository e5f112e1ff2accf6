/-! what only looks: leg, load, fault, scope, count by number -/
def RD (l : Launch) (y : MethodName) (ws : List Cond) (rm : Room) (E : Ev) (As : List Value) (I : SI) (L : SL) (v : Value) : Prop := CS l y ws rm E As I L (fun vv I' L' => vv = some v ∧ I' = I ∧ L' = L)
def ftn (j : Nat) : Nat := if j = 0 then 7 else 16
def ftt (j : Nat) : Nat := if j = 0 then 8 else 17
def ftu (j : Nat) : Nat := if j = 0 then 9 else 18
def wshI (I : SI) (n : Nat) : Int32 := if n = 0 then fWishF (I 2) (I 3) (I 4) (I 7) else if n = 1 then sWishF (I 4) (I 7) else if n = 2 then fWishF (I 11) (I 12) (I 13) (I 16) else sWishF (I 13) (I 16)
theorem wsh_0 {I : SI} {n : Nat} (hn : n < 4) (h : ¬ I (ftn (n / 2)) 3 ≤ 0) : wshI I n = 0 := by
  rcases (show n = 0 ∨ n = 1 ∨ n = 2 ∨ n = 3 by omega) with rfl | rfl | rfl | rfl
  · exact if_neg h
  · exact if_neg h
  · exact if_neg h
  · exact if_neg h
theorem r_leg_0 (l : Launch) (E : Ev) {I : SI} {L : SL} (n : Nat) (hn : n < 4) : RD l yX8_leg wsX8_leg ({ frames := 2, cells := 0, slots := 0, locals := 43 }) E [.ref (E.2.2.2 0), .int (nI n), .int (0 : Int32)] I L (.int (I (lgc n) 0)) := by
  rcases (show n = 0 ∨ n = 1 ∨ n = 2 ∨ n = 3 by omega) with rfl | rfl | rfl | rfl
  · exact k_X8_leg_0_0 l E _ rfl
  · exact k_X8_leg_1_0 l E _ rfl
  · exact k_X8_leg_2_0 l E _ rfl
  · exact k_X8_leg_3_0 l E _ rfl
theorem r_leg_1 (l : Launch) (E : Ev) {I : SI} {L : SL} (n : Nat) (hn : n < 4) : RD l yX8_leg wsX8_leg ({ frames := 2, cells := 0, slots := 0, locals := 43 }) E [.ref (E.2.2.2 0), .int (nI n), .int (1 : Int32)] I L (.int (I (lgc n) 1)) := by
  rcases (show n = 0 ∨ n = 1 ∨ n = 2 ∨ n = 3 by omega) with rfl | rfl | rfl | rfl
  · exact k_X8_leg_0_1 l E _ rfl
  · exact k_X8_leg_1_1 l E _ rfl
  · exact k_X8_leg_2_1 l E _ rfl
  · exact k_X8_leg_3_1 l E _ rfl
theorem r_leg_2 (l : Launch) (E : Ev) {I : SI} {L : SL} (n : Nat) (hn : n < 4) : RD l yX8_leg wsX8_leg ({ frames := 2, cells := 0, slots := 0, locals := 43 }) E [.ref (E.2.2.2 0), .int (nI n), .int (2 : Int32)] I L (.int (wshI I n)) := by
  rcases (show n = 0 ∨ n = 1 ∨ n = 2 ∨ n = 3 by omega) with rfl | rfl | rfl | rfl
  · exact k_X8_leg_0_2 l E _ _ _ _ rfl rfl rfl rfl
  · exact k_X8_leg_1_2 l E _ _ _ _ rfl rfl rfl rfl
  · exact k_X8_leg_2_2 l E _ _ _ _ rfl rfl rfl rfl
  · exact k_X8_leg_3_2 l E _ _ _ _ rfl rfl rfl rfl
theorem r_leg_3 (l : Launch) (E : Ev) {I : SI} {L : SL} (n : Nat) (hn : n < 4) : RD l yX8_leg wsX8_leg ({ frames := 2, cells := 0, slots := 0, locals := 43 }) E [.ref (E.2.2.2 0), .int (nI n), .int (3 : Int32)] I L (.int (I (lgc n) 2)) := by
  rcases (show n = 0 ∨ n = 1 ∨ n = 2 ∨ n = 3 by omega) with rfl | rfl | rfl | rfl
  · exact k_X8_leg_0_3 l E _ rfl
  · exact k_X8_leg_1_3 l E _ rfl
  · exact k_X8_leg_2_3 l E _ rfl
  · exact k_X8_leg_3_3 l E _ rfl
theorem r_leg_4 (l : Launch) (E : Ev) {I : SI} {L : SL} (n : Nat) (hn : n < 4) : RD l yX8_leg wsX8_leg ({ frames := 2, cells := 0, slots := 0, locals := 43 }) E [.ref (E.2.2.2 0), .int (nI n), .int (4 : Int32)] I L (.int (I (lgc n) 3)) := by
  rcases (show n = 0 ∨ n = 1 ∨ n = 2 ∨ n = 3 by omega) with rfl | rfl | rfl | rfl
  · exact k_X8_leg_0_4 l E _ rfl
  · exact k_X8_leg_1_4 l E _ rfl
  · exact k_X8_leg_2_4 l E _ rfl
  · exact k_X8_leg_3_4 l E _ rfl
theorem r_leg_5 (l : Launch) (E : Ev) {I : SI} {L : SL} (n : Nat) (hn : n < 4) : RD l yX8_leg wsX8_leg ({ frames := 2, cells := 0, slots := 0, locals := 43 }) E [.ref (E.2.2.2 0), .int (nI n), .int (5 : Int32)] I L (.int (I (lgc n) 4)) := by
  rcases (show n = 0 ∨ n = 1 ∨ n = 2 ∨ n = 3 by omega) with rfl | rfl | rfl | rfl
  · exact k_X8_leg_0_5 l E _ rfl
  · exact k_X8_leg_1_5 l E _ rfl
  · exact k_X8_leg_2_5 l E _ rfl
  · exact k_X8_leg_3_5 l E _ rfl
theorem r_leg_6 (l : Launch) (E : Ev) {I : SI} {L : SL} (n : Nat) (hn : n < 4) : RD l yX8_leg wsX8_leg ({ frames := 2, cells := 0, slots := 0, locals := 43 }) E [.ref (E.2.2.2 0), .int (nI n), .int (6 : Int32)] I L (.int (I (lgc n) 5)) := by
  rcases (show n = 0 ∨ n = 1 ∨ n = 2 ∨ n = 3 by omega) with rfl | rfl | rfl | rfl
  · exact k_X8_leg_0_6 l E _ rfl
  · exact k_X8_leg_1_6 l E _ rfl
  · exact k_X8_leg_2_6 l E _ rfl
  · exact k_X8_leg_3_6 l E _ rfl
theorem r_leg_7 (l : Launch) (E : Ev) {I : SI} {L : SL} (n : Nat) (hn : n < 4) : RD l yX8_leg wsX8_leg ({ frames := 2, cells := 0, slots := 0, locals := 43 }) E [.ref (E.2.2.2 0), .int (nI n), .int (7 : Int32)] I L (.int (I (lgc n) 6)) := by
  rcases (show n = 0 ∨ n = 1 ∨ n = 2 ∨ n = 3 by omega) with rfl | rfl | rfl | rfl
  · exact k_X8_leg_0_7 l E _ rfl
  · exact k_X8_leg_1_7 l E _ rfl
  · exact k_X8_leg_2_7 l E _ rfl
  · exact k_X8_leg_3_7 l E _ rfl
theorem r_load_0 (l : Launch) (E : Ev) {I : SI} {L : SL} (j : Nat) (hj : j < 2) : RD l yX8_load wsX8_load ({ frames := 2, cells := 0, slots := 0, locals := 42 }) E [.ref (E.2.2.2 0), .int (nI j), .int (0 : Int32)] I L (.int (I (dvc j) 0)) := by
  rcases (show j = 0 ∨ j = 1 by omega) with rfl | rfl
  · exact k_X8_load_0_0 l E _ rfl
  · exact k_X8_load_1_0 l E _ rfl
theorem r_load_1 (l : Launch) (E : Ev) {I : SI} {L : SL} (j : Nat) (hj : j < 2) : RD l yX8_load wsX8_load ({ frames := 2, cells := 0, slots := 0, locals := 42 }) E [.ref (E.2.2.2 0), .int (nI j), .int (1 : Int32)] I L (.int (I (dvc j) 1)) := by
  rcases (show j = 0 ∨ j = 1 by omega) with rfl | rfl
  · exact k_X8_load_0_1 l E _ rfl
  · exact k_X8_load_1_1 l E _ rfl
theorem r_load_4 (l : Launch) (E : Ev) {I : SI} {L : SL} (j : Nat) (hj : j < 2) : RD l yX8_load wsX8_load ({ frames := 2, cells := 0, slots := 0, locals := 42 }) E [.ref (E.2.2.2 0), .int (nI j), .int (4 : Int32)] I L (.int (I (ldb j) 4)) := by
  rcases (show j = 0 ∨ j = 1 by omega) with rfl | rfl
  · exact k_X8_load_0_4 l E _ rfl
  · exact k_X8_load_1_4 l E _ rfl
theorem r_load_5 (l : Launch) (E : Ev) {I : SI} {L : SL} (j : Nat) (hj : j < 2) : RD l yX8_load wsX8_load ({ frames := 2, cells := 0, slots := 0, locals := 42 }) E [.ref (E.2.2.2 0), .int (nI j), .int (5 : Int32)] I L (.int (I (ldb j) 5)) := by
  rcases (show j = 0 ∨ j = 1 by omega) with rfl | rfl
  · exact k_X8_load_0_5 l E _ rfl
  · exact k_X8_load_1_5 l E _ rfl
theorem r_load_6 (l : Launch) (E : Ev) {I : SI} {L : SL} (j : Nat) (hj : j < 2) (g : isb (I (ldb j) 6)) : RD l yX8_load wsX8_load ({ frames := 2, cells := 0, slots := 0, locals := 42 }) E [.ref (E.2.2.2 0), .int (nI j), .int (6 : Int32)] I L (.int (I (ldb j) 6)) := by
  rcases (show j = 0 ∨ j = 1 by omega) with rfl | rfl
  · exact k_X8_load_0_6 l E _ rfl g
  · exact k_X8_load_1_6 l E _ rfl g
theorem r_load_7 (l : Launch) (E : Ev) {I : SI} {L : SL} (j : Nat) (hj : j < 2) (g : isb (I (ldb j) 7)) : RD l yX8_load wsX8_load ({ frames := 2, cells := 0, slots := 0, locals := 42 }) E [.ref (E.2.2.2 0), .int (nI j), .int (7 : Int32)] I L (.int (I (ldb j) 7)) := by
  rcases (show j = 0 ∨ j = 1 by omega) with rfl | rfl
  · exact k_X8_load_0_7 l E _ rfl g
  · exact k_X8_load_1_7 l E _ rfl g
theorem r_load_10 (l : Launch) (E : Ev) {I : SI} {L : SL} (j : Nat) (hj : j < 2) : RD l yX8_load wsX8_load ({ frames := 2, cells := 0, slots := 0, locals := 42 }) E [.ref (E.2.2.2 0), .int (nI j), .int (10 : Int32)] I L (.int (I (ftn j) 3)) := by
  rcases (show j = 0 ∨ j = 1 by omega) with rfl | rfl
  · exact k_X8_load_0_10 l E _ rfl
  · exact k_X8_load_1_10 l E _ rfl
theorem r_fault_0 (l : Launch) (E : Ev) {I : SI} {L : SL} (j f : Nat) (hj : j < 2) (hf : f < 3) : RD l yX8_fault wsX8_fault ({ frames := 3, cells := 0, slots := 0, locals := 63 }) E [.ref (E.2.2.2 0), .int (nI j), .int (nI f), .int (0 : Int32)] I L (.int (if ¬ I (ftt j) f = 0 then 1 else 0)) := by
  rcases (show j = 0 ∨ j = 1 by omega) with rfl | rfl <;> rcases (show f = 0 ∨ f = 1 ∨ f = 2 by omega) with rfl | rfl | rfl
  · exact k_X8_fault_0_0_0 l E _ rfl
  · exact k_X8_fault_0_1_0 l E _ rfl
  · exact k_X8_fault_0_2_0 l E _ rfl
  · exact k_X8_fault_1_0_0 l E _ rfl
  · exact k_X8_fault_1_1_0 l E _ rfl
  · exact k_X8_fault_1_2_0 l E _ rfl
theorem r_fault_1 (l : Launch) (E : Ev) {I : SI} {L : SL} (j f : Nat) (hj : j < 2) (hf : f < 3) : RD l yX8_fault wsX8_fault ({ frames := 3, cells := 0, slots := 0, locals := 63 }) E [.ref (E.2.2.2 0), .int (nI j), .int (nI f), .int (1 : Int32)] I L (.int (if ¬ I (ftt j) f = 0 then I (ftu j) f else (-2000000004 : Int32))) := by
  rcases (show j = 0 ∨ j = 1 by omega) with rfl | rfl <;> rcases (show f = 0 ∨ f = 1 ∨ f = 2 by omega) with rfl | rfl | rfl
  · exact k_X8_fault_0_0_1 l E _ _ rfl rfl
  · exact k_X8_fault_0_1_1 l E _ _ rfl rfl
  · exact k_X8_fault_0_2_1 l E _ _ rfl rfl
  · exact k_X8_fault_1_0_1 l E _ _ rfl rfl
  · exact k_X8_fault_1_1_1 l E _ _ rfl rfl
  · exact k_X8_fault_1_2_1 l E _ _ rfl rfl
theorem r_fault_3 (l : Launch) (E : Ev) {I : SI} {L : SL} (j f : Nat) (hj : j < 2) (hf : f < 3) : RD l yX8_fault wsX8_fault ({ frames := 4, cells := 0, slots := 0, locals := 88 }) E [.ref (E.2.2.2 0), .int (nI j), .int (nI f), .int (3 : Int32)] I L (.int (if ¬ I (ftt j) f = 0 then plcF (I (ftt j)) (I (ftu j)) f else (-2000000004 : Int32))) := by
  rcases (show j = 0 ∨ j = 1 by omega) with rfl | rfl <;> rcases (show f = 0 ∨ f = 1 ∨ f = 2 by omega) with rfl | rfl | rfl
  · exact k_X8_fault_0_0_3 l E _ _ rfl rfl
  · exact k_X8_fault_0_1_3 l E _ _ rfl rfl
  · exact k_X8_fault_0_2_3 l E _ _ rfl rfl
  · exact k_X8_fault_1_0_3 l E _ _ rfl rfl
  · exact k_X8_fault_1_1_3 l E _ _ rfl rfl
  · exact k_X8_fault_1_2_3 l E _ _ rfl rfl
theorem r_fault_4 (l : Launch) (E : Ev) {I : SI} {L : SL} (j f : Nat) (hj : j < 2) (hf : f < 3) : CS l yX8_fault wsX8_fault ({ frames := 5, cells := 0, slots := 0, locals := 110 }) E [.ref (E.2.2.2 0), .int (nI j), .int (nI f), .int (4 : Int32)] I L (fun vv I' L' => ∃ x : Int32, vv = some (.int x) ∧ (x = 0 ∨ (¬ I (ftt j) f = 0 ∧ plcF (I (ftt j)) (I (ftu j)) f = 0)) ∧ I' = I ∧ L' = L) := by
  have key : ∀ (P : Prop) [inst : Decidable P] (A : Prop), (P → A) → ∀ (v : Option Value) (I' : SI) (L' : SL), (v = some (.int (if P then 1 else 0)) ∧ I' = I ∧ L' = L) → ∃ x : Int32, v = some (.int x) ∧ (x = 0 ∨ A) ∧ I' = I ∧ L' = L := by
    intro P inst A h v I' L' g
    obtain ⟨g1, g2, g3⟩ := g
    refine ⟨_, g1, ?_, g2, g3⟩
    by_cases p : P
    · exact Or.inr (h p)
    · exact Or.inl (if_neg p)
  rcases (show j = 0 ∨ j = 1 by omega) with rfl | rfl <;> rcases (show f = 0 ∨ f = 1 ∨ f = 2 by omega) with rfl | rfl | rfl
  · exact CS.mono (k_X8_fault_0_0_4 l E _ _ _ _ rfl rfl rfl rfl) (key _ _ (fun h => ⟨h.1, h.2.1⟩))
  · exact CS.mono (k_X8_fault_0_1_4 l E _ _ _ _ rfl rfl rfl rfl) (key _ _ (fun h => ⟨h.1, h.2⟩))
  · exact CS.mono (k_X8_fault_0_2_4 l E _ _ _ _ rfl rfl rfl rfl) (key _ _ (fun h => ⟨h.1, h.2.1⟩))
  · exact CS.mono (k_X8_fault_1_0_4 l E _ _ _ _ rfl rfl rfl rfl) (key _ _ (fun h => ⟨h.1, h.2.1⟩))
  · exact CS.mono (k_X8_fault_1_1_4 l E _ _ _ _ rfl rfl rfl rfl) (key _ _ (fun h => ⟨h.1, h.2⟩))
  · exact CS.mono (k_X8_fault_1_2_4 l E _ _ _ _ rfl rfl rfl rfl) (key _ _ (fun h => ⟨h.1, h.2.1⟩))
theorem r_scope_c (l : Launch) (E : Ev) {I : SI} {L : SL} (j b k : Nat) (hj : j < 2) (hs : I 1 4 = nI k) (hk : k < 2 ^ 30) (hb : b < Nat.min k 32) : RD l yX8_scope wsX8_scope ({ frames := 2, cells := 0, slots := 0, locals := 45 }) E [.ref (E.2.2.2 0), .int (nI b), .int (nI (1 + j))] I L (.int (I (23 + j) ((k - 1 - b) % 32))) := by
  rcases (show j = 0 ∨ j = 1 by omega) with rfl | rfl
  · exact k_X8_scope_ok_1 l E b _ _ k rfl rfl hs hk hb
  · exact k_X8_scope_ok_2 l E b _ _ k rfl rfl hs hk hb
theorem r_scope_3 (l : Launch) (E : Ev) {I : SI} {L : SL} (b k : Nat) (hs : I 1 4 = nI k) (hk : k < 2 ^ 30) (hb : b < Nat.min k 32) : RD l yX8_scope wsX8_scope ({ frames := 2, cells := 0, slots := 0, locals := 45 }) E [.ref (E.2.2.2 0), .int (nI b), .int (3 : Int32)] I L (.int (I 25 ((k - 1 - b) % 32))) := k_X8_scope_ok_3 l E b _ _ k rfl rfl hs hk hb
theorem r_count_0 (l : Launch) (E : Ev) {I : SI} {L : SL} (k : Nat) (hs : I 1 4 = nI k) (hk : k < 2 ^ 30) : RD l yX8_count wsX8_count ({ frames := 1, cells := 0, slots := 0, locals := 22 }) E [.ref (E.2.2.2 0), .int (0 : Int32)] I L (.long (lN k)) := by
  have h := k_X8_count_0 l E (I := I) (L := L) _ rfl
  rw [hs, nI_l (by omega)] at h
  exact h
theorem r_count_1 (l : Launch) (E : Ev) {I : SI} {L : SL} (c d : Nat) (hc : I 7 3 = nI c) (hd : I 16 3 = nI d) (h2 : c + d < 2 ^ 30) : RD l yX8_count wsX8_count ({ frames := 1, cells := 0, slots := 0, locals := 22 }) E [.ref (E.2.2.2 0), .int (1 : Int32)] I L (.long (lN (c + d))) := by
  have h := k_X8_count_1 l E (I := I) (L := L) _ _ rfl rfl
  rw [hc, hd, nI_add, nI_l (by omega)] at h
  exact h
theorem minI_n {k : Nat} (hk : k < 2 ^ 30) : minI (nI k) 32 = nI (Nat.min k 32) := by
  unfold minI
  by_cases h : (32 : Int32) < nI k
  · rw [if_pos h]
    have h2 : 32 < k := (nI_lt_iff (a := 32) (by decide) (by omega)).mp h
    rw [show Nat.min k 32 = 32 from Nat.min_eq_right (by omega)]
    rfl
  · rw [if_neg h]
    have h2 : ¬ 32 < k := fun q => h ((nI_lt_iff (a := 32) (by decide) (by omega)).mpr q)
    rw [show Nat.min k 32 = k from Nat.min_eq_left (by omega)]
theorem r_count_2 (l : Launch) (E : Ev) {I : SI} {L : SL} (k : Nat) (hs : I 1 4 = nI k) (hk : k < 2 ^ 30) : RD l yX8_count wsX8_count ({ frames := 2, cells := 0, slots := 0, locals := 33 }) E [.ref (E.2.2.2 0), .int (2 : Int32)] I L (.long (lN (Nat.min k 32))) := by
  have h := k_X8_count_2 l E (I := I) (L := L) _ rfl
  rw [hs, minI_n hk, nI_l (Nat.lt_of_le_of_lt (show Nat.min k 32 ≤ k from Nat.min_le_left k 32) (by omega))] at h
  exact h
theorem r_count_3 (l : Launch) (E : Ev) {I : SI} {L : SL} (a b c d : Nat) (ha : I 3 3 = nI a) (hb : I 4 3 = nI b) (hc : I 12 3 = nI c) (hd : I 13 3 = nI d) (h2 : a + b + (c + d) < 2 ^ 30) : RD l yX8_count wsX8_count ({ frames := 1, cells := 0, slots := 0, locals := 22 }) E [.ref (E.2.2.2 0), .int (3 : Int32)] I L (.long (lN (a + b + (c + d)))) := by
  have h := k_X8_count_3 l E (I := I) (L := L) _ _ _ _ rfl rfl rfl rfl
  rw [ha, hb, hc, hd, nI_add, nI_add, nI_add, nI_l (by omega)] at h
  exact h
theorem r_count_5 (l : Launch) (E : Ev) {I : SI} {L : SL} (kp : Nat) (hs : I 53 2 = nI kp) (hk : kp < 2 ^ 30) : RD l yX8_count wsX8_count ({ frames := 1, cells := 0, slots := 0, locals := 22 }) E [.ref (E.2.2.2 0), .int (5 : Int32)] I L (.long (lN kp)) := by
  have h := k_X8_count_5 l E (I := I) (L := L) _ rfl
  rw [hs, nI_l (by omega)] at h
  exact h
