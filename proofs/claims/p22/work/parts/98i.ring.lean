/-! what the scope keeps: sg s is a leg's state in slot s, ga s a load's current at its end -/
def RgL (a : Nat → Int32) (sg : Nat → Nat) (k D : Nat) : Prop :=
  (∀ s, sg s ≤ 2) ∧ (∀ i j, i < j → j < k → ¬ sg i = 0 → ¬ sg j = 0 → (∀ m, i < m → m < j → sg m = 0) → (sg i = sg j ∧ j = i + 1) ∨ D ≤ j - i - 1) ∧
  (0 < k → a 1 = nI (sg (k - 1))) ∧ (∃ r, r ≤ k ∧ a 2 = nI r ∧ (∀ s, s < k → k ≤ s + r → sg s = 0) ∧ (r < k → ¬ sg (k - 1 - r) = 0)) ∧ (a 4 = 0 ∧ a 5 = 0 → ∀ s, s < k → sg s = 0)
theorem RgL.cong {a a' : Nat → Int32} {sg : Nat → Nat} {k D : Nat} (h : RgL a sg k D) (he : ∀ f, 1 ≤ f → f < 6 → a' f = a f) : RgL a' sg k D := by
  unfold RgL
  rw [he 1 (by decide) (by decide), he 2 (by decide) (by decide), he 4 (by decide) (by decide), he 5 (by decide) (by decide)]
  exact h
def ext (sg : Nat → Nat) (k x : Nat) : Nat → Nat := fun s => if s = k then x else sg s
theorem ext_k {sg : Nat → Nat} {k x : Nat} : ext sg k x k = x := if_pos rfl
theorem ext_o {sg : Nat → Nat} {k x s : Nat} (h : s ≠ k) : ext sg k x s = sg s := if_neg h
theorem RgL.step {a : Nat → Int32} {sg : Nat → Nat} {k D x : Nat} {w dead : Int32} (h : RgL a sg k D) (hL : LegI a k) (hk : k < 2 ^ 30) (hD : dead = nI D) (hD2 : D < 2 ^ 30) (hx : x ≤ 2) (hst : stF a w dead = nI x) : RgL (legF a w dead) (ext sg k x) (k + 1) D := by
  obtain ⟨g1, g2, g3, ⟨r, hr, er, g4, g5⟩, g6⟩ := h
  obtain ⟨-, -, -, -, r4, r5, r6, -, -, e4, e5, -, hs, -, -, -, -⟩ := hL
  obtain ⟨v0, v1, v2, v3, v4, v5, v6⟩ := leg_v hst
  have hst' := hst
  unfold stF at hst'
  unfold RgL
  rw [v1, v2, v4, v5]
  have x0 : x ≠ 0 → ¬ nI x = 0 := fun q q2 => q ((nI_z (by omega)).mp q2)
  refine ⟨?_, ?_, ?_, ?_, ?_⟩
  · intro s
    by_cases q : s = k
    · rw [q, ext_k]
      exact hx
    · rw [ext_o q]
      exact g1 s
  · intro i j hij hj hi0 hj0 hm
    have hik : i ≠ k := by omega
    rw [ext_o hik] at hi0
    by_cases q : j = k
    · subst q
      rw [ext_k] at hj0
      rw [ext_o hik, ext_k]
      have hm' : ∀ m, i < m → m < j → sg m = 0 := fun m h1 h2 => by
        have := hm m h1 h2
        rw [ext_o (by omega)] at this
        exact this
      have hr2 : r = j - 1 - i := by
        rcases Nat.lt_trichotomy r (j - 1 - i) with c | c | c
        · exact absurd (hm' (j - 1 - r) (by omega) (by omega)) (g5 (by omega))
        · exact c
        · exact absurd (g4 i hij (by omega)) hi0
      have hc : w = a 1 ∨ (a 4 = 0 ∧ a 5 = 0) ∨ ¬ a 2 < dead := by
        rcases Classical.em (w = a 1 ∨ (a 4 = 0 ∧ a 5 = 0) ∨ ¬ a 2 < dead) with c | c
        · exact c
        · rw [if_neg c] at hst'
          exact absurd hst'.symm (x0 hj0)
      rw [if_pos hc] at hst'
      rcases hc with c | c | c
      · have e1 := g3 (by omega)
        have e2 : sg (j - 1) = x := nI_inj (by have := g1 (j - 1); omega) (by omega) (by rw [← e1, ← c, hst'])
        have r0 : r = 0 := by
          rcases Nat.eq_zero_or_pos r with z | z
          · exact z
          · have := g4 (j - 1) (by omega) (by omega)
            omega
        have i1 : i = j - 1 := by omega
        refine Or.inl ⟨?_, by omega⟩
        rw [i1]
        exact e2
      · exact absurd (g6 c i hij) hi0
      · rw [er, hD, nI_lt_iff (by omega) (by omega)] at c
        exact Or.inr (by omega)
    · rw [ext_o q] at hj0 ⊢
      rw [ext_o hik]
      refine g2 i j hij (by omega) hi0 hj0 (fun m h1 h2 => ?_)
      have := hm m h1 h2
      rw [ext_o (by omega)] at this
      exact this
  · intro _
    rw [show k + 1 - 1 = k from rfl, ext_k]
  · by_cases q : x = 0
    · rw [q]
      refine ⟨r + 1, by omega, ?_, ?_, ?_⟩
      · rw [if_pos (show nI 0 = 0 from rfl), er]
        exact nI_s r
      · intro s h1 h2
        by_cases z : s = k
        · rw [z, ext_k]
        · rw [ext_o z]
          exact g4 s (by omega) (by omega)
      · intro h1
        rw [show k + 1 - 1 - (r + 1) = k - 1 - r by omega, ext_o (by omega)]
        exact g5 (by omega)
    · refine ⟨0, Nat.zero_le _, ?_, ?_, ?_⟩
      · rw [if_neg (x0 q)]
        rfl
      · intro s h1 h2
        omega
      · intro _
        rw [show k + 1 - 1 - 0 = k from rfl, ext_k]
        exact q
  · by_cases q : x = 0
    · rw [q]
      intro h1 s h2
      rw [if_pos (show nI 0 = 0 from rfl), if_pos (show nI 0 = 0 from rfl)] at h1
      by_cases z : s = k
      · rw [z, ext_k]
      · rw [ext_o z]
        exact g6 h1 s (by omega)
    · intro h1
      rw [if_neg (x0 q), if_neg (x0 q)] at h1
      exfalso
      rcases (show x = 1 ∨ x = 2 by omega) with z | z
      · rw [z, if_pos (show nI 1 = 1 from rfl), e4] at h1
        have := h1.1
        rw [nI_s, nI_z (by omega)] at this
        omega
      · rw [z, if_neg (show ¬ nI 2 = 1 by decide), if_neg (show ¬ nI 2 = 1 by decide), e5] at h1
        have := h1.2
        rw [nI_s, nI_z (by omega)] at this
        omega
def RgC (c : Int) (ga : Nat → Int) (k : Nat) (M : Int) : Prop :=
  (∀ s, s + 1 < k → -M ≤ ga (s + 1) - ga s ∧ ga (s + 1) - ga s ≤ M) ∧ (∀ s, s < k → -1000000 ≤ ga s ∧ ga s ≤ 1000000) ∧ (0 < k → c = ga (k - 1))
def extZ (ga : Nat → Int) (k : Nat) (x : Int) : Nat → Int := fun s => if s = k then x else ga s
theorem extZ_k {ga : Nat → Int} {k : Nat} {x : Int} : extZ ga k x k = x := if_pos rfl
theorem extZ_o {ga : Nat → Int} {k s : Nat} {x : Int} (h : s ≠ k) : extZ ga k x s = ga s := if_neg h
theorem RgC.step {c c' M : Int} {ga : Nat → Int} {k : Nat} (h : RgC c ga k M) (h1 : -M ≤ c' - c ∧ c' - c ≤ M) (h2 : -1000000 ≤ c' ∧ c' ≤ 1000000) : RgC c' (extZ ga k c') (k + 1) M := by
  obtain ⟨g1, g2, g3⟩ := h
  refine ⟨fun s hs => ?_, fun s hs => ?_, fun _ => ?_⟩
  · by_cases q : s + 1 = k
    · have e := g3 (by omega)
      rw [show k - 1 = s by omega] at e
      rw [q, extZ_k, extZ_o (by omega), ← e]
      exact h1
    · rw [extZ_o q, extZ_o (by omega)]
      exact g1 s (by omega)
  · by_cases q : s = k
    · rw [q, extZ_k]
      exact h2
    · rw [extZ_o q]
      exact g2 s (by omega)
  · rw [show k + 1 - 1 = k from rfl, extZ_k]
/-- a current changes by no more than step and droop -/
theorem twz_d {c a : Int32} (ha0 : 0 ≤ a.toInt) (ha : a.toInt ≤ 2000) (h1 : -2000000 ≤ c.toInt) (h2 : c.toInt ≤ 2000000) : -a.toInt ≤ (twz c a).toInt - c.toInt ∧ (twz c a).toInt - c.toInt ≤ a.toInt := by
  have z0 : (0 : Int32).toInt = 0 := by decide
  have ea := i32_add (x := c) (y := a) (by omega) (by omega)
  have es := i32_sub (x := c) (y := a) (by omega) (by omega)
  unfold twz minI maxI
  by_cases hc : c ≤ 0
  · have hc' := Int32.le_iff_toInt_le.mp hc
    rw [if_pos hc]
    by_cases q : c + a < 0
    · rw [if_pos q, ea]
      omega
    · rw [if_neg q]
      have q' : ¬ (c + a).toInt < (0 : Int32).toInt := fun z => q (Int32.lt_iff_toInt_lt.mpr z)
      omega
  · have hc' : ¬ c.toInt ≤ (0 : Int32).toInt := fun z => hc (Int32.le_iff_toInt_le.mpr z)
    rw [if_neg hc]
    by_cases q : 0 < c - a
    · rw [if_pos q, es]
      omega
    · rw [if_neg q]
      have q' : ¬ (0 : Int32).toInt < (c - a).toInt := fun z => q (Int32.lt_iff_toInt_lt.mpr z)
      omega
theorem mm_d {x c : Int32} {M : Int} (h1 : -1000000 ≤ c.toInt) (h2 : c.toInt ≤ 1000000) (h : -M ≤ x.toInt - c.toInt ∧ x.toInt - c.toInt ≤ M) : -M ≤ (maxI (-1000000) (minI 1000000 x)).toInt - c.toInt ∧ (maxI (-1000000) (minI 1000000 x)).toInt - c.toInt ≤ M := by
  have c1 : (1000000 : Int32).toInt = 1000000 := by decide
  have c2 : (-1000000 : Int32).toInt = -1000000 := by decide
  unfold maxI minI
  by_cases q : x < 1000000
  · rw [if_pos q]
    by_cases q2 : (-1000000 : Int32) < x
    · rw [if_pos q2]
      exact h
    · rw [if_neg q2]
      have q2' : ¬ (-1000000 : Int32).toInt < x.toInt := fun z => q2 (Int32.lt_iff_toInt_lt.mpr z)
      omega
  · rw [if_neg q, if_pos (by decide)]
    have q' : ¬ x.toInt < (1000000 : Int32).toInt := fun z => q (Int32.lt_iff_toInt_lt.mpr z)
    omega
theorem drv_in {p q : Nat → Int32} : drvF p q = 2 ∨ drvF p q = 0 ∨ drvF p q = 1 ∨ drvF p q = -1 := by
  unfold drvF
  split
  · exact Or.inl rfl
  · split
    · exact Or.inl rfl
    · split
      · exact Or.inr (Or.inl rfl)
      · split
        · exact Or.inr (Or.inr (Or.inl rfl))
        · exact Or.inr (Or.inr (Or.inr rfl))
theorem cur_d {b dv : Nat → Int32} {s0 s1 : Nat} (h9 : b 9 = 2 ∨ b 9 = 0 ∨ b 9 = 1 ∨ b 9 = -1) (h1 : -1000000 ≤ (b 4).toInt) (h2 : (b 4).toInt ≤ 1000000) (e0 : dv 0 = nI s0) (e1 : dv 1 = nI s1) (l0 : s0 ≤ 1000) (l1 : s1 ≤ 1000) : -((s0 + s1 : Nat) : Int) ≤ (curF b dv).toInt - (b 4).toInt ∧ (curF b dv).toInt - (b 4).toInt ≤ ((s0 + s1 : Nat) : Int) := by
  have q0 : (nI s0).toInt = s0 := nI_toInt (by omega)
  have q1 : (nI s1).toInt = s1 := nI_toInt (by omega)
  have q01 : (nI (s0 + s1)).toInt = ((s0 + s1 : Nat) : Int) := nI_toInt (by omega)
  unfold curF
  refine mm_d h1 h2 ?_
  rw [e0, e1]
  rcases h9 with z | z
  · rw [if_pos z, nI_add]
    have := twz_d (c := b 4) (a := nI (s0 + s1)) (by omega) (by omega) (by omega) (by omega)
    omega
  · have n2 : ¬ b 9 = 2 := by rcases z with z | z | z <;> rw [z] <;> decide
    rw [if_neg n2]
    have hm : (nI s0 * b 9).toInt = 0 ∨ (nI s0 * b 9).toInt = s0 ∨ (nI s0 * b 9).toInt = -s0 := by
      rcases z with z | z | z
      · rw [z, Int32.mul_zero]
        exact Or.inl rfl
      · rw [z, Int32.mul_one]
        exact Or.inr (Or.inl q0)
      · refine Or.inr (Or.inr ?_)
        rw [z, Int32.mul_comm, ← Int32.neg_eq_neg_one_mul, Int32.toInt_neg, q0]
        exact Int.bmod_eq_of_le (by omega) (by omega)
    have ha := i32_add (x := b 4) (y := nI s0 * b 9) (by omega) (by omega)
    have ht := twz_d (c := b 4 + nI s0 * b 9) (a := nI s1) (by omega) (by omega) (by omega) (by omega)
    omega
