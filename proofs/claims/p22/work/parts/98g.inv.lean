/-! the class's own invariants, by rows: a leg, the faults of a load, the rest of a load -/
def LegI (a : Nat → Int32) (k : Nat) : Prop :=
  (a 0 = 0 ∨ a 0 = 1 ∨ a 0 = 2) ∧ (a 1 = 0 ∨ a 1 = 1 ∨ a 1 = 2) ∧ ∃ r2 r3 r4 r5 r6 : Nat, a 2 = nI r2 ∧ a 3 = nI r3 ∧ a 4 = nI r4 ∧ a 5 = nI r5 ∧ a 6 = nI r6 ∧ r4 + r5 + r6 = k ∧ r3 ≤ k ∧ r2 ≤ k ∧ (a 1 = 0 → r2 = 0 → k = 0) ∧ (¬ a 1 = 0 → r2 = 0 ∧ 0 < k)
theorem LegI.cong {a a' : Nat → Int32} {k : Nat} (h : LegI a k) (he : ∀ f, f < 7 → a' f = a f) : LegI a' k := by
  unfold LegI
  rw [he 0 (by decide), he 1 (by decide), he 2 (by decide), he 3 (by decide), he 4 (by decide), he 5 (by decide), he 6 (by decide)]
  exact h
theorem stF_in {a : Nat → Int32} {w dead : Int32} (hw : w = 0 ∨ w = 1 ∨ w = 2) : stF a w dead = 0 ∨ stF a w dead = 1 ∨ stF a w dead = 2 := by
  unfold stF
  split
  · exact hw
  · exact Or.inl rfl
theorem LegI.step {a : Nat → Int32} {k : Nat} {w dead : Int32} (h : LegI a k) (hw : w = 0 ∨ w = 1 ∨ w = 2) : LegI (legF a w dead) (k + 1) := by
  obtain ⟨h0, h1, r2, r3, r4, r5, r6, e2, e3, e4, e5, e6, hs, h3, h2, hz, hn⟩ := h
  have hst := stF_in (a := a) (dead := dead) hw
  obtain ⟨v0, v1, v2, v3, v4, v5, v6⟩ := leg_v (p := a) (w := w) (dead := dead) rfl
  generalize stF a w dead = now at *
  unfold LegI
  rw [v0, v1, v2, v3, v4, v5, v6]
  refine ⟨h0, hst, ?_⟩
  have x3 : ∃ r, (if now = a 1 then a 3 else a 3 + 1) = nI r ∧ r ≤ k + 1 := by
    split
    · exact ⟨r3, e3, by omega⟩
    · exact ⟨r3 + 1, by rw [e3]; exact nI_s r3, by omega⟩
  obtain ⟨r3', e3', h3'⟩ := x3
  rcases hst with rfl | rfl | rfl
  · refine ⟨r2 + 1, r3', r4, r5, r6 + 1, ?_, e3', e4, e5, ?_, by omega, h3', by omega, fun _ q => by omega, fun q => absurd rfl q⟩
    · rw [if_pos rfl, e2]
      exact nI_s r2
    · rw [if_pos rfl, e6]
      exact nI_s r6
  · refine ⟨0, r3', r4 + 1, r5, r6, rfl, e3', ?_, e5, e6, by omega, h3', by omega, fun q => absurd q (by decide), fun _ => ⟨rfl, by omega⟩⟩
    rw [show (if (1 : Int32) = 0 then a 4 else if (1 : Int32) = 1 then a 4 + 1 else a 4) = a 4 + 1 from rfl, e4]
    exact nI_s r4
  · refine ⟨0, r3', r4, r5 + 1, r6, rfl, e3', e4, ?_, e6, by omega, h3', by omega, fun q => absurd q (by decide), fun _ => ⟨rfl, by omega⟩⟩
    rw [show (if (2 : Int32) = 0 then a 5 else if (2 : Int32) = 1 then a 5 else a 5 + 1) = a 5 + 1 from rfl, e5]
    exact nI_s r5
/-- the faults of a load: how many are latched, their slots are gone by -/
def FtI (n t u : Nat → Int32) (k : Nat) : Prop := (∀ f, f < 3 → isb (t f)) ∧ n 3 = t 0 + t 1 + t 2 ∧ ∀ f, f < 3 → ¬ t f = 0 → ∃ j, j < k ∧ u f = nI j
theorem FtI.mono {n t u : Nat → Int32} {k k' : Nat} (h : FtI n t u k) (hk : k ≤ k') : FtI n t u k' := by
  refine ⟨h.1, h.2.1, fun f hf ht => ?_⟩
  obtain ⟨j, h1, h2⟩ := h.2.2 f hf ht
  exact ⟨j, by omega, h2⟩
theorem FtI.cong {n n' t t' u u' : Nat → Int32} {k : Nat} (h : FtI n t u k) (hn : n' 3 = n 3) (ht : ∀ f, f < 3 → t' f = t f ∧ u' f = u f) : FtI n' t' u' k := by
  refine ⟨fun f hf => ?_, ?_, fun f hf => ?_⟩
  · rw [(ht f hf).1]
    exact h.1 f hf
  · rw [hn, (ht 0 (by decide)).1, (ht 1 (by decide)).1, (ht 2 (by decide)).1]
    exact h.2.1
  · rw [(ht f hf).1, (ht f hf).2]
    exact h.2.2 f hf
theorem cinc3 {P : Prop} [inst : Decidable P] {n : Nat → Int32} : cinc P n 3 = n 3 + (if P then 1 else 0) := by
  by_cases p : P
  · rw [cinc_p p, if_pos p, upd_eq]
  · rw [cinc_n p, if_neg p, Int32.add_zero]
theorem ft_cu {P : Prop} [inst : Decidable P] {n t u : Nat → Int32} {k m j : Nat} (h : FtI n t u k) (hm : m < 3) (hP : P → t m = 0) (hj : j < k) : FtI (cinc P n) (cu P t m 1) (cu P u m (nI j)) k := by
  by_cases p : P
  · rw [cinc_p p, cu_p p, cu_p p]
    obtain ⟨h1, h2, h3⟩ := h
    have e := hP p
    refine ⟨fun f hf => ?_, ?_, fun f hf => ?_⟩
    · by_cases q : f = m
      · rw [q, upd_eq]
        exact Or.inr rfl
      · rw [upd_ne q]
        exact h1 f hf
    · rw [upd_eq, h2]
      rcases (show m = 0 ∨ m = 1 ∨ m = 2 by omega) with q | q | q
      · rw [q] at e ⊢
        rw [upd_eq, upd_ne (by decide), upd_ne (by decide), e, Int32.zero_add]
        ac_rfl
      · rw [q] at e ⊢
        rw [upd_ne (by decide), upd_eq, upd_ne (by decide), e, Int32.add_zero]
        ac_rfl
      · rw [q] at e ⊢
        rw [upd_ne (by decide), upd_ne (by decide), upd_eq, e, Int32.add_zero]
    · by_cases q : f = m
      · rw [q, upd_eq, upd_eq]
        exact fun _ => ⟨j, hj, rfl⟩
      · rw [upd_ne q, upd_ne q]
        exact h3 f hf
  · rw [cinc_n p, cu_n p, cu_n p]
    exact h
theorem ft_see {b dv sv n t u : Nat → Int32} {k : Nat} (h : FtI n t u k) : FtI (seeN b dv sv t n) (seeT b dv sv t) (seeU b dv sv t u (nI k)) (k + 1) := by
  have r0 := ft_cu (P := (b 8 = 0 ∧ ¬ absI (b 4) < sv 2) ∧ ¬ ¬ t 0 = 0) (h.mono (Nat.le_succ k)) (m := 0) (by decide) (fun q => Classical.not_not.mp q.2) (Nat.lt_succ_self k)
  have r1 := ft_cu (P := (¬ b 10 < sv 3 ∧ ¬ dv 0 ≤ absI (b 4)) ∧ ¬ ¬ (cu ((b 8 = 0 ∧ ¬ absI (b 4) < sv 2) ∧ ¬ ¬ t 0 = 0) t 0 1) 1 = 0) r0 (m := 1) (by decide) (fun q => Classical.not_not.mp q.2) (Nat.lt_succ_self k)
  exact ft_cu r1 (m := 2) (by decide) (fun q => Classical.not_not.mp q.2) (Nat.lt_succ_self k)
theorem seeN3 {b dv sv t n : Nat → Int32} : seeN b dv sv t n 3 = n 3 + seeR b dv sv t := by
  unfold seeN seeR
  rw [cinc3, cinc3, cinc3, Int32.zero_add]
  ac_rfl
theorem ite_g {P : Prop} [inst : Decidable P] {a : Int32} {b : Nat} (h : ∃ r, r ≤ b ∧ a = nI r) : ∃ r, r ≤ b + 1 ∧ a + (if P then 1 else 0) = nI r := by
  obtain ⟨r, hr, ha⟩ := h
  by_cases p : P
  · refine ⟨r + 1, by omega, ?_⟩
    rw [if_pos p, ha]
    exact nI_s r
  · refine ⟨r, by omega, ?_⟩
    rw [if_neg p, Int32.add_zero]
    exact ha
theorem seeR_in {b dv sv t : Nat → Int32} : ∃ r, r ≤ 3 ∧ seeR b dv sv t = nI r := by
  unfold seeR
  exact ite_g (ite_g (ite_g ⟨0, Nat.le_refl _, rfl⟩))
/-- chopper, eye, heat, current of a load -/
def LoI (b : Nat → Int32) : Prop := isb (b 6) ∧ isb (b 7) ∧ (¬ b 7 = 0 → b 6 = 1) ∧ 0 ≤ (b 5).toInt ∧ -1000000 ≤ (b 4).toInt ∧ (b 4).toInt ≤ 1000000
theorem LoI.cong {b b' : Nat → Int32} (h : LoI b) (he : ∀ f, 4 ≤ f → f < 8 → b' f = b f) : LoI b' := by
  unfold LoI
  rw [he 4 (by decide) (by decide), he 5 (by decide) (by decide), he 6 (by decide) (by decide), he 7 (by decide) (by decide)]
  exact h
theorem mm_in (x : Int32) : -1000000 ≤ (maxI (-1000000) (minI 1000000 x)).toInt ∧ (maxI (-1000000) (minI 1000000 x)).toInt ≤ 1000000 := by
  have c1 : (1000000 : Int32).toInt = 1000000 := by decide
  have c2 : (-1000000 : Int32).toInt = -1000000 := by decide
  unfold maxI minI
  by_cases h : x < 1000000
  · rw [if_pos h]
    have h' := Int32.lt_iff_toInt_lt.mp h
    by_cases h2 : (-1000000 : Int32) < x
    · rw [if_pos h2]
      have h2' := Int32.lt_iff_toInt_lt.mp h2
      omega
    · rw [if_neg h2]
      omega
  · rw [if_neg h, if_pos (by decide)]
    omega
theorem heat_in (y : Int64) : 0 ≤ (Int64.toInt32 (maxL 0 (minL 2000000000 y))).toInt := by
  have c1 : (2000000000 : Int64).toInt = 2000000000 := by decide
  have c0 : (0 : Int64).toInt = 0 := by decide
  have key : ∀ z : Int64, 0 ≤ z.toInt → z.toInt ≤ 2000000000 → 0 ≤ (Int64.toInt32 z).toInt := by
    intro z h1 h2
    rw [Int64.toInt_toInt32, Int.bmod_eq_of_le (by omega) (by omega)]
    exact h1
  unfold maxL minL
  by_cases h : y < 2000000000
  · rw [if_pos h]
    have h' := Int64.lt_iff_toInt_lt.mp h
    by_cases h2 : y < 0
    · rw [if_pos h2]
      exact key 0 (by omega) (by omega)
    · rw [if_neg h2]
      have h2' : ¬ y.toInt < (0 : Int64).toInt := fun q => h2 (Int64.lt_iff_toInt_lt.mpr q)
      exact key y (by omega) (by omega)
  · rw [if_neg h, if_neg (by decide)]
    exact key 2000000000 (by omega) (by omega)
theorem look_o {b dv : Nat → Int32} {f : Nat} (h : f ≠ 7) : lookF b dv f = b f := by
  unfold lookF
  split
  · rfl
  · split
    · exact upd_ne h
    · split
      · exact upd_ne h
      · rfl
theorem b5_o {b p q n dv sv : Nat → Int32} {f : Nat} (h : f ≠ 8) : b5F b p q n dv sv f = b4F b p q n dv sv f := by
  unfold b5F
  split
  · rfl
  · exact upd_ne h
theorem b3_o {b p q n dv sv : Nat → Int32} {f : Nat} (h4 : f ≠ 4) (h5 : f ≠ 5) : b3F b p q n dv sv f = b1F b p q n sv f := by
  unfold b3F
  rw [upd_ne h5]
  unfold b2F
  rw [upd_ne h4]
theorem b1_lo {b p q n sv : Nat → Int32} {f : Nat} (h : f < 8) : b1F b p q n sv f = b f := by
  unfold b1F
  rw [(legs_v (b := b0F b) (p := p) (q := q) (n := n) (sv := sv)).1 f h, b0_o (by omega)]
theorem b4_4 {b p q n dv sv : Nat → Int32} : b4F b p q n dv sv 4 = curF (b1F b p q n sv) dv := by
  unfold b4F
  rw [look_o (by decide)]
  unfold b3F
  rw [upd_ne (by decide)]
  unfold b2F
  rw [upd_eq]
theorem b4_5 {b p q n dv sv : Nat → Int32} : b4F b p q n dv sv 5 = heatF (b2F b p q n dv sv) (sv 5) := by
  unfold b4F
  rw [look_o (by decide)]
  unfold b3F
  rw [upd_eq]
theorem b4_6 {b p q n dv sv : Nat → Int32} : b4F b p q n dv sv 6 = b 6 := by
  unfold b4F
  rw [look_o (by decide), b3_o (by decide) (by decide), b1_lo (by decide)]
theorem LoI.step {b p q n dv sv : Nat → Int32} (h : LoI b) : LoI (b5F b p q n dv sv) := by
  obtain ⟨h6, h7, h76, -, -, -⟩ := h
  unfold LoI
  rw [b5_o (by decide), b5_o (by decide), b5_o (by decide), b5_o (by decide), b4_4, b4_5, b4_6]
  have e7 : isb (b4F b p q n dv sv 7) ∧ (¬ b4F b p q n dv sv 7 = 0 → b 6 = 1) := by
    unfold b4F lookF
    rw [b3_o (f := 6) (by decide) (by decide), b1_lo (f := 6) (by decide)]
    split
    · rw [b3_o (f := 7) (by decide) (by decide), b1_lo (f := 7) (by decide)]
      exact ⟨h7, h76⟩
    · rename_i hc
      have g6 : b 6 = 1 := by
        rcases h6 with q | q
        · exact absurd (Or.inl q) hc
        · exact q
      split
      · rw [upd_eq]
        exact ⟨Or.inr rfl, fun _ => g6⟩
      · split
        · rw [upd_eq]
          exact ⟨Or.inl rfl, fun _ => g6⟩
        · rw [b3_o (f := 7) (by decide) (by decide), b1_lo (f := 7) (by decide)]
          exact ⟨h7, h76⟩
  have e4 := mm_in (if b1F b p q n sv 9 = 2 then twz (b1F b p q n sv 4) (dv 0 + dv 1) else twz (b1F b p q n sv 4 + dv 0 * b1F b p q n sv 9) (dv 1))
  exact ⟨h6, e7.1, e7.2, heat_in _, e4.1, e4.2⟩
