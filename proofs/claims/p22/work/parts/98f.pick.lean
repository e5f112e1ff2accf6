theorem CS.mono {l : Launch} {y : MethodName} {ws : List Cond} {rm : Room} {E : Ev} {As : List Value} {I : SI} {L : SL} {Rs Rs' : Option Value → SI → SL → Prop} (h : CS l y ws rm E As I L Rs) (k : ∀ v I' L', Rs v I' L' → Rs' v I' L') : CS l y ws rm E As I L Rs' := by
  intro p e a1 a2 a3 s m args below hf h1 h2 h3
  obtain ⟨t, o, r1, r2, r3, ⟨⟨v, I', L', q1, q2, q3⟩, q4⟩, r5⟩ := h p e a1 a2 a3 s m args below hf h1 h2 h3
  exact ⟨t, o, r1, r2, r3, ⟨⟨v, I', L', q1, k v I' L' q2, q3⟩, q4⟩, r5⟩
theorem nI_inj {a b : Nat} (ha : a < 2 ^ 31) (hb : b < 2 ^ 31) (h : nI a = nI b) : a = b := (nI_eq ha hb).mp h
theorem nI_z {a : Nat} (ha : a < 2 ^ 31) : nI a = 0 ↔ a = 0 := nI_eq (b := 0) ha (by decide)
theorem nI_lt_iff {a b : Nat} (ha : a < 2 ^ 31) (hb : b < 2 ^ 31) : nI a < nI b ↔ a < b := by
  rw [Int32.lt_iff_toInt_lt, nI_toInt ha, nI_toInt hb]
  omega
theorem nI_le_iff {a b : Nat} (ha : a < 2 ^ 31) (hb : b < 2 ^ 31) : nI a ≤ nI b ↔ a ≤ b := by
  rw [Int32.le_iff_toInt_le, nI_toInt ha, nI_toInt hb]
  omega
theorem nI_ne_m1 {a : Nat} (ha : a < 2 ^ 31) : ¬ nI a = -1 := by
  intro h
  have h2 := congrArg Int32.toInt h
  rw [nI_toInt ha] at h2
  have e : (-1 : Int32).toInt = -1 := by decide
  omega
theorem nI_s (a : Nat) : nI a + 1 = nI (a + 1) := nI_add a 1
/-- the values of a class's leg behind its slot -/
theorem leg_v {p : Nat → Int32} {w dead now : Int32} (hn : stF p w dead = now) :
    legF p w dead 0 = p 0 ∧ legF p w dead 1 = now ∧ legF p w dead 2 = (if now = 0 then p 2 + 1 else 0) ∧ legF p w dead 3 = (if now = p 1 then p 3 else p 3 + 1) ∧
    legF p w dead 4 = (if now = 0 then p 4 else if now = 1 then p 4 + 1 else p 4) ∧ legF p w dead 5 = (if now = 0 then p 5 else if now = 1 then p 5 else p 5 + 1) ∧ legF p w dead 6 = (if now = 0 then p 6 + 1 else p 6) := by
  unfold legF
  rw [hn]
  by_cases h : now = p 1
  · rw [if_pos h, if_pos h]
    unfold cntF
    rw [show upd p 1 now 1 = now from rfl]
    by_cases h0 : now = 0
    · rw [if_pos h0, if_pos h0, if_pos h0, if_pos h0, if_pos h0]
      exact ⟨rfl, rfl, rfl, rfl, rfl, rfl, rfl⟩
    · rw [if_neg h0, if_neg h0, if_neg h0, if_neg h0, if_neg h0]
      by_cases h1 : now = 1
      · rw [if_pos h1, if_pos h1, if_pos h1]
        exact ⟨rfl, rfl, rfl, rfl, rfl, rfl, rfl⟩
      · rw [if_neg h1, if_neg h1, if_neg h1]
        exact ⟨rfl, rfl, rfl, rfl, rfl, rfl, rfl⟩
  · rw [if_neg h, if_neg h]
    unfold cntF
    rw [show upd (upd p 1 now) 3 (p 3 + 1) 1 = now from rfl]
    by_cases h0 : now = 0
    · rw [if_pos h0, if_pos h0, if_pos h0, if_pos h0, if_pos h0]
      exact ⟨rfl, rfl, rfl, rfl, rfl, rfl, rfl⟩
    · rw [if_neg h0, if_neg h0, if_neg h0, if_neg h0, if_neg h0]
      by_cases h1 : now = 1
      · rw [if_pos h1, if_pos h1, if_pos h1]
        exact ⟨rfl, rfl, rfl, rfl, rfl, rfl, rfl⟩
      · rw [if_neg h1, if_neg h1, if_neg h1]
        exact ⟨rfl, rfl, rfl, rfl, rfl, rfl, rfl⟩
/-! pure: a load of the class against the model's row -/
theorem i32_add {x y : Int32} (h1 : -2147483648 ≤ x.toInt + y.toInt) (h2 : x.toInt + y.toInt < 2147483648) : (x + y).toInt = x.toInt + y.toInt := by
  rw [Int32.toInt_add]
  exact Int.bmod_eq_of_le (by omega) (by omega)
theorem i32_sub {x y : Int32} (h1 : -2147483648 ≤ x.toInt - y.toInt) (h2 : x.toInt - y.toInt < 2147483648) : (x - y).toInt = x.toInt - y.toInt := by
  rw [Int32.toInt_sub]
  exact Int.bmod_eq_of_le (by omega) (by omega)
theorem f3 {P : Nat → Prop} (a : P 0) (b : P 1) (c : P 2) : ∀ f, f < 3 → P f := by
  intro f hf
  rcases (show f = 0 ∨ f = 1 ∨ f = 2 by omega) with rfl | rfl | rfl
  · exact a
  · exact b
  · exact c
theorem ite_iff {P Q : Prop} [Decidable P] [Decidable Q] (h : P ↔ Q) (x y : Int32) : (if P then x else y) = if Q then x else y := by
  by_cases q : Q
  · rw [if_pos q, if_pos (h.mpr q)]
  · rw [if_neg q, if_neg (fun p => q (h.mp p))]
/-! pure: a slot of a load, of a bridge -/
theorem b0_o {b : Nat → Int32} {f : Nat} (h : f ≠ 11) : b0F b f = b f := by
  unfold b0F
  split
  · rfl
  · exact upd_ne h
theorem legs_v {b p q n sv : Nat → Int32} : (∀ f, f < 8 → legsF b p q n sv f = b f) ∧ legsF b p q n sv 11 = b 11 ∧ legsF b p q n sv 8 = (if ¬ stF p (fWishF b p q n) (sv 0) = p 1 ∨ ¬ stF q (sWishF q n) (sv 0) = q 1 then sv 1 else b 8) ∧
    legsF b p q n sv 9 = drvF (legF p (fWishF b p q n) (sv 0)) (legF q (sWishF q n) (sv 0)) ∧ legsF b p q n sv 10 = (if drvF (legF p (fWishF b p q n) (sv 0)) (legF q (sWishF q n) (sv 0)) = 1 ∨ drvF (legF p (fWishF b p q n) (sv 0)) (legF q (sWishF q n) (sv 0)) = -1 then b 10 + 1 else 0) := by
  unfold legsF
  refine ⟨?_, ?_, ?_, ?_, ?_⟩
  · intro f hf
    rw [upd_ne (by omega), upd_ne (by omega)]
    split
    · rw [upd_ne (by omega)]
    · rfl
  · rw [upd_ne (by decide), upd_ne (by decide)]
    split
    · rw [upd_ne (by decide)]
    · rfl
  · rw [upd_ne (by decide), upd_ne (by decide)]
    split
    · rw [upd_eq]
    · rfl
  · rw [upd_ne (by decide), upd_eq]
  · rw [upd_eq]
theorem i64_ac (a b x y : Int64) : a + b + x + y = a + x + (b + y) := by ac_rfl
theorem i32_ac (a b x y : Int32) : a + b + x + y = a + x + (b + y) := by ac_rfl
