/-! a load, a bridge: what holds of its rows whatever the calls; a slot keeps it -/
def LdI (I : SI) (X k : Nat) : Prop := LegI (I (X + 1)) k ∧ LegI (I (X + 2)) k ∧ LoI (I X) ∧ FtI (I (X + 5)) (I (X + 6)) (I (X + 7)) k
def BlkI (I : SI) (B k : Nat) : Prop := I B 4 = nI k ∧ LdI I (B + 1) k ∧ LdI I (B + 10) k
theorem fw_in {b p q n : Nat → Int32} (hp : p 0 = 0 ∨ p 0 = 1 ∨ p 0 = 2) (hq : q 0 = 0 ∨ q 0 = 1 ∨ q 0 = 2) : fWishF b p q n = 0 ∨ fWishF b p q n = 1 ∨ fWishF b p q n = 2 := by
  unfold fWishF
  split
  · split
    · exact hp
    · exact hq
  · exact Or.inl rfl
theorem sw_in {q n : Nat → Int32} (hq : q 0 = 0 ∨ q 0 = 1 ∨ q 0 = 2) : sWishF q n = 0 ∨ sWishF q n = 1 ∨ sWishF q n = 2 := by
  unfold sWishF
  split
  · exact hq
  · exact Or.inl rfl
theorem LdI.step {I : SI} {X k : Nat} (D : Nat) (h : LdI I X k) : LegI (st1 I X D) (k + 1) ∧ LegI (st2 I X D) (k + 1) ∧ LoI (st0 I X D) ∧ FtI (st5 I X D) (st6 I X D) (st7 I X D k) (k + 1) := by
  obtain ⟨hp, hq, hb, hf⟩ := h
  exact ⟨hp.step (fw_in hp.1 hq.1), hq.step (sw_in hq.1), hb.step, ft_see hf⟩
theorem BlkI.step {I : SI} {B k : Nat} (h : BlkI I B k) : BlkI (bsI B I k) B (k + 1) := by
  obtain ⟨h0, h1, h2⟩ := h
  obtain ⟨a1, a2, a3, a4⟩ := h1.step (B + 19)
  obtain ⟨c1, c2, c3, c4⟩ := h2.step (B + 19)
  refine ⟨?_, ⟨?_, ?_, ?_, ?_⟩, ⟨?_, ?_, ?_, ?_⟩⟩
  · rw [bsI_0, upd_eq]
  · show LegI (bsI B I k (B + 2)) (k + 1)
    rw [bsI_2]
    exact a1
  · show LegI (bsI B I k (B + 3)) (k + 1)
    rw [bsI_3]
    exact a2
  · rw [bsI_1]
    exact a3
  · show FtI (bsI B I k (B + 6)) (bsI B I k (B + 7)) (bsI B I k (B + 8)) (k + 1)
    rw [bsI_6, bsI_7, bsI_8]
    exact a4
  · show LegI (bsI B I k (B + 11)) (k + 1)
    rw [bsI_11]
    exact c1
  · show LegI (bsI B I k (B + 12)) (k + 1)
    rw [bsI_12]
    exact c2
  · rw [bsI_10]
    exact c3
  · show FtI (bsI B I k (B + 15)) (bsI B I k (B + 16)) (bsI B I k (B + 17)) (k + 1)
    rw [bsI_15, bsI_16, bsI_17]
    exact c4
theorem BlkI.it {I : SI} {L : SL} {B k n : Nat} (h : BlkI I B k) : BlkI (brIt B k n (I, L)).1 B (k + n) := by
  induction n with
  | zero => exact h
  | succ n ih => exact BlkI.step ih
/-- rows in which nothing of this has changed -/
theorem BlkI.fr {I I' : SI} {B k : Nat} (h : BlkI I B k) (e : ∀ z, z = B ∨ (B + 1 ≤ z ∧ z ≤ B + 3) ∨ (B + 6 ≤ z ∧ z ≤ B + 8) ∨ (B + 10 ≤ z ∧ z ≤ B + 12) ∨ (B + 15 ≤ z ∧ z ≤ B + 17) → I' z = I z) : BlkI I' B k := by
  unfold BlkI LdI
  rw [e B (by omega), e (B + 1) (by omega), e (B + 1 + 1) (by omega), e (B + 1 + 2) (by omega), e (B + 1 + 5) (by omega), e (B + 1 + 6) (by omega), e (B + 1 + 7) (by omega), e (B + 10) (by omega), e (B + 10 + 1) (by omega), e (B + 10 + 2) (by omega), e (B + 10 + 5) (by omega), e (B + 10 + 6) (by omega), e (B + 10 + 7) (by omega)]
  exact h
/-- a copy -/
theorem BlkI.cp {I I' : SI} {L L' : SL} {T S k : Nat} (h : BlkI I S k) (c : CpB I' L' T I L S) : BlkI I' T k := by
  obtain ⟨h0, ⟨p1, q1, b1, f1⟩, ⟨p2, q2, b2, f2⟩⟩ := h
  obtain ⟨c0, c1, c2, c3⟩ := c
  obtain ⟨x1, x2, x3, x4, x5, x6, x7⟩ := c3 1 (Or.inl rfl)
  obtain ⟨y1, y2, y3, y4, y5, y6, y7⟩ := c3 10 (Or.inr rfl)
  exact ⟨c0.trans h0, ⟨p1.cong x2, q1.cong x3, b1.cong (fun f g1 g2 => x1 f g1 (by omega)), f1.cong x5 (fun f hf => ⟨(x6 f hf).1, (x6 f hf).2.1⟩)⟩, ⟨p2.cong y2, q2.cong y3, b2.cong (fun f g1 g2 => y1 f g1 (by omega)), f2.cong y5 (fun f hf => ⟨(y6 f hf).1, (y6 f hf).2.1⟩)⟩⟩
theorem BlkI.isbB {I : SI} {B k : Nat} (h : BlkI I B k) : IsbB I B := by
  obtain ⟨h0, ⟨p1, q1, b1, f1⟩, ⟨p2, q2, b2, f2⟩⟩ := h
  intro X hX
  rcases hX with rfl | rfl
  · exact ⟨b1.1, b1.2.1, f1.1⟩
  · exact ⟨b2.1, b2.2.1, f2.1⟩
/-- how many faults are latched -/
theorem FtI.num {n t u : Nat → Int32} {k : Nat} (h : FtI n t u k) : ∃ c, c ≤ 3 ∧ n 3 = nI c := by
  obtain ⟨h1, h2, -⟩ := h
  rw [h2]
  rcases h1 0 (by decide) with a | a <;> rcases h1 1 (by decide) with b | b <;> rcases h1 2 (by decide) with c | c <;> rw [a, b, c]
  · exact ⟨0, by decide, rfl⟩
  · exact ⟨1, by decide, rfl⟩
  · exact ⟨1, by decide, rfl⟩
  · exact ⟨2, by decide, rfl⟩
  · exact ⟨1, by decide, rfl⟩
  · exact ⟨2, by decide, rfl⟩
  · exact ⟨2, by decide, rfl⟩
  · exact ⟨3, by decide, rfl⟩
theorem stR_in {I : SI} {X D : Nat} : ∃ r, r ≤ 3 ∧ stR I X D = nI r := seeR_in
theorem st5_3 {I : SI} {X D : Nat} : st5 I X D 3 = I (X + 5) 3 + stR I X D := seeN3
theorem brSum_in {B k n : Nat} {s : SI × SL} : ∃ r, r ≤ 6 * n ∧ brSum B k n s = nI r := by
  induction n with
  | zero => exact ⟨0, Nat.le_refl _, rfl⟩
  | succ n ih =>
    obtain ⟨r, h1, e1⟩ := ih
    obtain ⟨a, h2, e2⟩ := @stR_in (brIt B k n s).1 (B + 1) (B + 19)
    obtain ⟨c, h3, e3⟩ := @stR_in (brIt B k n s).1 (B + 10) (B + 19)
    refine ⟨r + a + c, by omega, ?_⟩
    show brSum B k n s + stR (brIt B k n s).1 (B + 1) (B + 19) + stR (brIt B k n s).1 (B + 10) (B + 19) = _
    rw [e1, e2, e3, nI_add, nI_add]
theorem brSum_num {B k n : Nat} {s : SI × SL} : (brIt B k n s).1 (B + 6) 3 + (brIt B k n s).1 (B + 15) 3 = s.1 (B + 6) 3 + s.1 (B + 15) 3 + brSum B k n s := by
  induction n with
  | zero =>
    show s.1 (B + 6) 3 + s.1 (B + 15) 3 = s.1 (B + 6) 3 + s.1 (B + 15) 3 + 0
    rw [Int32.add_zero]
  | succ n ih =>
    have e1 : (brIt B k (n + 1) s).1 (B + 6) 3 = (brIt B k n s).1 (B + 6) 3 + stR (brIt B k n s).1 (B + 1) (B + 19) := by
      show bsI B (brIt B k n s).1 (k + n) (B + 6) 3 = _
      rw [bsI_6]
      exact st5_3
    have e2 : (brIt B k (n + 1) s).1 (B + 15) 3 = (brIt B k n s).1 (B + 15) 3 + stR (brIt B k n s).1 (B + 10) (B + 19) := by
      show bsI B (brIt B k n s).1 (k + n) (B + 15) 3 = _
      rw [bsI_15]
      exact st5_3
    rw [e1, e2, ← i32_ac, ih]
    show _ = s.1 (B + 6) 3 + s.1 (B + 15) 3 + (brSum B k n s + stR (brIt B k n s).1 (B + 1) (B + 19) + stR (brIt B k n s).1 (B + 10) (B + 19))
    ac_rfl
