theorem isB_h {T j : Nat} (hj : j < 4) (h : T = 55 + 26 * j) : IsB T := by
  rcases (show j = 0 ∨ j = 1 ∨ j = 2 ∨ j = 3 by omega) with rfl | rfl | rfl | rfl
  · subst h; unfold IsB; decide
  · subst h; unfold IsB; decide
  · subst h; unfold IsB; decide
  · subst h; unfold IsB; decide
theorem nI_ne {a b : Nat} (ha : a < 2 ^ 31) (hb : b < 2 ^ 31) (h : a ≠ b) : ¬ nI a = nI b := fun q => h ((nI_eq ha hb).mp q)
theorem upd_ne {a : Nat → Int32} {k z : Nat} {x : Int32} (h : z ≠ k) : upd a k x z = a z := if_neg h
theorem upd_eq {a : Nat → Int32} {k : Nat} {x : Int32} : upd a k x k = x := if_pos rfl
theorem up_same {I : SI} {c : Nat} {r : Nat → Int32} (h : I c = r) : I = up I c r := by
  rw [← h, up_self]
theorem cp_0 {f g : Nat → Int32} {sp dp : Nat} : va_cpy f g sp dp 0 = g := by
  funext z
  unfold va_cpy
  rw [if_neg (by omega)]
theorem cp_s {f g : Nat → Int32} {sp dp k : Nat} : upd (va_cpy f g sp dp k) (dp + k) (f (sp + k)) = va_cpy f g sp dp (k + 1) := by
  funext z
  unfold upd va_cpy
  by_cases h : z = dp + k
  · rw [if_pos h, if_pos (by omega)]
    congr 1
    omega
  · rw [if_neg h]
    by_cases h2 : dp ≤ z ∧ z < dp + k
    · rw [if_pos h2, if_pos (by omega)]
    · rw [if_neg h2, if_neg (by omega)]
theorem cp_s0 {f g : Nat → Int32} {dp k : Nat} : upd (va_cpy f g 0 dp k) (dp + k) (f k) = va_cpy f g 0 dp (k + 1) := by
  have h := @cp_s f g 0 dp k
  rw [Nat.zero_add] at h
  exact h
theorem cp_s1 {f g : Nat → Int32} {sp k : Nat} : upd (va_cpy f g sp 0 k) k (f (sp + k)) = va_cpy f g sp 0 (k + 1) := by
  have h := @cp_s f g sp 0 k
  rw [Nat.zero_add] at h
  exact h
theorem cp_s00 {f g : Nat → Int32} {k : Nat} : upd (va_cpy f g 0 0 k) k (f k) = va_cpy f g 0 0 (k + 1) := by
  have h := @cp_s f g 0 0 k
  rw [Nat.zero_add] at h
  exact h
theorem cp_sh {f : Nat → Int32} {q k : Nat} : upd (va_cpy f f q 0 k) k (va_cpy f f q 0 k (k + q)) = va_cpy f f q 0 (k + 1) := by
  have h : va_cpy f f q 0 k (k + q) = f (q + k) := by
    unfold va_cpy
    by_cases h : 0 ≤ k + q ∧ k + q < 0 + k
    · rw [if_pos h]
      exfalso
      omega
    · rw [if_neg h, Nat.add_comm]
  rw [h]
  exact cp_s1
theorem nI_s0 {k : Nat} (h : k + 1 < 2 ^ 31) : ¬ nI (k + 1) = 0 := nI_ne (b := 0) h (by decide) (by omega)
abbrev TK6 (what value : Int32) : Prop := (¬ what < 0 ∧ ¬ (6 : Int32) ≤ what) ∧ (¬ value < e_tab 0 what.toNatClampNeg ∧ ¬ e_tab 1 what.toNatClampNeg < value)
abbrev TK4 (what value : Int32) : Prop := (¬ what < 0 ∧ ¬ (4 : Int32) ≤ what) ∧ (¬ value < e_tab 0 (6 + what.toNatClampNeg) ∧ ¬ e_tab 1 (6 + what.toNatClampNeg) < value)
abbrev IN1 (x : Int32) : Prop := ¬ x < (0 : Int32) ∧ ¬ (1 : Int32) < x
abbrev IN2 (x : Int32) : Prop := ¬ x < (0 : Int32) ∧ ¬ (2 : Int32) < x
abbrev IN3 (x : Int32) : Prop := ¬ x < (0 : Int32) ∧ ¬ (3 : Int32) < x
abbrev INR (x a b : Int32) : Prop := ¬ x < a ∧ ¬ b < x
theorem in_k {x : Int32} {n : Nat} (hn : n < 2 ^ 31) (h : ¬ x < 0 ∧ ¬ nI n ≤ x) : x.toInt = (x.toInt.toNat : Int) ∧ x.toInt.toNat < n := by
  have h2 : ¬ x.toInt < 0 := fun q => h.1 (Int32.lt_iff_toInt_lt.mpr q)
  have h3 : x.toInt < (nI n).toInt := Int32.lt_iff_toInt_lt.mp (Int32.not_le.mp h.2)
  rw [nI_toInt hn] at h3
  omega
theorem in_out {x : Int32} {n : Nat} (hn : n < 2 ^ 31) : (¬ x < 0 ∧ ¬ nI n ≤ x) ∨ (x.toInt < 0 ∨ (n : Int) - 1 < x.toInt) := by
  rcases Classical.em (¬ x < 0 ∧ ¬ nI n ≤ x) with h | h
  · exact Or.inl h
  · refine Or.inr ?_
    rcases Classical.em (x < 0) with q | q
    · exact Or.inl (Int32.lt_iff_toInt_lt.mp q)
    · have q2 : nI n ≤ x := Classical.not_not.mp (fun q3 => h ⟨q, q3⟩)
      have q4 := Int32.le_iff_toInt_le.mp q2
      rw [nI_toInt hn] at q4
      exact Or.inr (by omega)
def recK (kp : Nat) : Nat := if kp = 4 then 4 else kp + 1
theorem recK_4 : recK 4 = 4 := if_pos rfl
theorem recK_lt {kp : Nat} (h : kp < 4) : recK kp = kp + 1 := if_neg (by omega)
theorem recK_le {kp : Nat} (h : kp ≤ 4) : recK kp ≤ 4 := by unfold recK; split <;> omega
theorem inR {n a b : Nat} (h1 : a ≤ n) (h2 : n ≤ b) (hb : b < 2 ^ 31) : ¬ nI n < nI a ∧ ¬ nI b < nI n := ⟨nI_nlt h1 (by omega), nI_nlt h2 (by omega)⟩
theorem ofR {x : Int32} {a b : Nat} (hb : b < 2 ^ 31) (hab : a ≤ b) (h : ¬ x < nI a ∧ ¬ nI b < x) : ∃ n, a ≤ n ∧ n ≤ b ∧ x = nI n := by
  have h1 : ¬ x.toInt < (nI a).toInt := fun q => h.1 (Int32.lt_iff_toInt_lt.mpr q)
  have h2 : ¬ (nI b).toInt < x.toInt := fun q => h.2 (Int32.lt_iff_toInt_lt.mpr q)
  rw [nI_toInt (by omega)] at h1
  rw [nI_toInt hb] at h2
  refine ⟨x.toInt.toNat, by omega, by omega, Int32.toInt_inj.mp ?_⟩
  rw [nI_toInt (by omega)]
  omega
