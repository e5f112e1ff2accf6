/-! the scope of the class's bridge: a slot keeps what it says -/
def lgc (n : Nat) : Nat := if n = 0 then 3 else if n = 1 then 4 else if n = 2 then 12 else 13
def ldb (l : Nat) : Nat := if l = 0 then 2 else 11
def dvc (l : Nat) : Nat := if l = 0 then 6 else 15
theorem n4 {P : Nat → Prop} (a : P 0) (b : P 1) (c : P 2) (d : P 3) : ∀ n, n < 4 → P n := by
  intro n hn
  rcases (show n = 0 ∨ n = 1 ∨ n = 2 ∨ n = 3 by omega) with rfl | rfl | rfl | rfl
  · exact a
  · exact b
  · exact c
  · exact d
theorem n2 {P : Nat → Prop} (a : P 0) (b : P 1) : ∀ n, n < 2 → P n := by
  intro n hn
  rcases (show n = 0 ∨ n = 1 by omega) with rfl | rfl
  · exact a
  · exact b
def ScI (I : SI) (sg : Nat → Nat → Nat) (ga : Nat → Nat → Int) (k : Nat) : Prop := ∀ s, s < k → k ≤ s + 32 → I 25 (s % 32) = nI (sg 0 s + 3 * sg 1 s + 9 * sg 2 s + 27 * sg 3 s) ∧ (I 23 (s % 32)).toInt = ga 0 s ∧ (I 24 (s % 32)).toInt = ga 1 s
def RingI (I : SI) (k D : Nat) (M : Nat → Nat) : Prop := ∃ (sg : Nat → Nat → Nat) (ga : Nat → Nat → Int), (∀ n, n < 4 → RgL (I (lgc n)) (sg n) k D) ∧ (∀ l, l < 2 → RgC ((I (ldb l) 4).toInt) (ga l) k (M l)) ∧ ScI I sg ga k
/-- the dials of the loads: step and droop -/
def DvI (I : SI) (M : Nat → Nat) : Prop := ∀ l, l < 2 → ∃ s0 s1 : Nat, I (dvc l) 0 = nI s0 ∧ I (dvc l) 1 = nI s1 ∧ s0 ≤ 1000 ∧ s1 ≤ 1000 ∧ M l = s0 + s1
theorem st_x {a : Nat → Int32} {w dead : Int32} (hw : w = 0 ∨ w = 1 ∨ w = 2) : ∃ x, x ≤ 2 ∧ stF a w dead = nI x := by
  rcases stF_in (a := a) (dead := dead) hw with h | h | h
  · exact ⟨0, by decide, h⟩
  · exact ⟨1, by decide, h⟩
  · exact ⟨2, by decide, h⟩
theorem rgc_step {b p q n dv sv : Nat → Int32} {ga : Nat → Int} {k s0 s1 : Nat} (h : RgC ((b 4).toInt) ga k ((s0 + s1 : Nat) : Int)) (hb : LoI b) (e0 : dv 0 = nI s0) (e1 : dv 1 = nI s1) (l0 : s0 ≤ 1000) (l1 : s1 ≤ 1000) : RgC ((b5F b p q n dv sv 4).toInt) (extZ ga k ((b5F b p q n dv sv 4).toInt)) (k + 1) ((s0 + s1 : Nat) : Int) := by
  have hc : b5F b p q n dv sv 4 = curF (b1F b p q n sv) dv := (b5_o (by decide)).trans b4_4
  have e4 : b1F b p q n sv 4 = b 4 := b1_lo (by decide)
  have e9 : b1F b p q n sv 9 = drvF (legF p (fWishF (b0F b) p q n) (sv 0)) (legF q (sWishF q n) (sv 0)) := legs_v.2.2.2.1
  have d := cur_d (b := b1F b p q n sv) (dv := dv) (s0 := s0) (s1 := s1) (by rw [e9]; exact drv_in) (by rw [e4]; exact hb.2.2.2.2.1) (by rw [e4]; exact hb.2.2.2.2.2) e0 e1 l0 l1
  rw [e4] at d
  rw [hc]
  exact h.step d (mm_in _)
theorem RingI.step {I : SI} {k D : Nat} {M : Nat → Nat} (h : RingI I k D M) (hB : BlkI I 1 k) (hdv : DvI I M) (hs : I 21 0 = nI D) (hk : k < 2 ^ 30) (hD2 : D < 2 ^ 30) : RingI (bsI 1 I k) (k + 1) D M := by
  obtain ⟨sg, ga, hl, hc, hsc⟩ := h
  obtain ⟨-, ⟨p1, q1, b1, f1⟩, ⟨p2, q2, b2, f2⟩⟩ := hB
  obtain ⟨s0, s1, e0, e1, l0, l1, eM⟩ := hdv 0 (by decide)
  obtain ⟨t0, t1, u0, u1, m0, m1, eN⟩ := hdv 1 (by decide)
  have p1 : LegI (I 3) k := p1
  have q1 : LegI (I 4) k := q1
  have p2 : LegI (I 12) k := p2
  have q2 : LegI (I 13) k := q2
  obtain ⟨x0, hx0, w0⟩ := st_x (a := I 3) (dead := I 21 0) (fw_in (b := b0F (I 2)) (n := I 7) p1.1 q1.1)
  obtain ⟨x1, hx1, w1⟩ := st_x (a := I 4) (dead := I 21 0) (sw_in (n := I 7) q1.1)
  obtain ⟨x2, hx2, w2⟩ := st_x (a := I 12) (dead := I 21 0) (fw_in (b := b0F (I 11)) (n := I 16) p2.1 q2.1)
  obtain ⟨x3, hx3, w3⟩ := st_x (a := I 13) (dead := I 21 0) (sw_in (n := I 16) q2.1)
  have r0 := (hl 0 (by decide)).step p1 hk hs hD2 hx0 w0
  have r1 := (hl 1 (by decide)).step q1 hk hs hD2 hx1 w1
  have r2 := (hl 2 (by decide)).step p2 hk hs hD2 hx2 w2
  have r3 := (hl 3 (by decide)).step q2 hk hs hD2 hx3 w3
  have g0 := hc 0 (by decide)
  have g1 := hc 1 (by decide)
  rw [eM] at g0
  rw [eN] at g1
  have c0 : RgC ((st0 I 2 20 4).toInt) (extZ (ga 0) k ((st0 I 2 20 4).toInt)) (k + 1) ((s0 + s1 : Nat) : Int) := rgc_step (b := I 2) (p := I 3) (q := I 4) (n := I 7) (dv := I 6) (sv := I 21) g0 b1 e0 e1 l0 l1
  have c1 : RgC ((st0 I 11 20 4).toInt) (extZ (ga 1) k ((st0 I 11 20 4).toInt)) (k + 1) ((t0 + t1 : Nat) : Int) := rgc_step (b := I 11) (p := I 12) (q := I 13) (n := I 16) (dv := I 15) (sv := I 21) g1 b2 u0 u1 m0 m1
  rw [← eM] at c0
  rw [← eN] at c1
  obtain ⟨v0, ev0⟩ : ∃ v, st0 I 2 20 4 = v := ⟨_, rfl⟩
  obtain ⟨v1, ev1⟩ : ∃ v, st0 I 11 20 4 = v := ⟨_, rfl⟩
  rw [ev0] at c0
  rw [ev1] at c1
  refine ⟨fun n => ext (sg n) k (if n = 0 then x0 else if n = 1 then x1 else if n = 2 then x2 else x3), fun l => extZ (ga l) k (if l = 0 then v0.toInt else v1.toInt), n4 ?_ ?_ ?_ ?_, n2 ?_ ?_, ?_⟩
  · show RgL (bsI 1 I k (1 + 2)) _ _ _
    rw [bsI_2]
    exact r0
  · show RgL (bsI 1 I k (1 + 3)) _ _ _
    rw [bsI_3]
    exact r1
  · show RgL (bsI 1 I k (1 + 11)) _ _ _
    rw [bsI_11]
    exact r2
  · show RgL (bsI 1 I k (1 + 12)) _ _ _
    rw [bsI_12]
    exact r3
  · show RgC ((bsI 1 I k (1 + 1) 4).toInt) (extZ (ga 0) k v0.toInt) (k + 1) (M 0)
    rw [bsI_1, show st0 I (1 + 1) (1 + 19) 4 = v0 from ev0]
    exact c0
  · show RgC ((bsI 1 I k (1 + 10) 4).toInt) (extZ (ga 1) k v1.toInt) (k + 1) (M 1)
    rw [bsI_10, show st0 I (1 + 10) (1 + 19) 4 = v1 from ev1]
    exact c1
  · intro s h1 h2
    show bsI 1 I k (1 + 24) (s % 32) = _ ∧ (bsI 1 I k (1 + 22) (s % 32)).toInt = _ ∧ (bsI 1 I k (1 + 23) (s % 32)).toInt = _
    rw [bsI_24, bsI_22, bsI_23]
    unfold sc1 sc2 sc3
    by_cases z : s = k
    · rw [z, upd_eq, upd_eq, upd_eq]
      refine ⟨?_, ?_, ?_⟩
      · have a0 : st1 I (1 + 1) (1 + 19) 1 = nI x0 := (leg_v w0).2.1
        have a1 : st2 I (1 + 1) (1 + 19) 1 = nI x1 := (leg_v w1).2.1
        have a2 : st1 I (1 + 10) (1 + 19) 1 = nI x2 := (leg_v w2).2.1
        have a3 : st2 I (1 + 10) (1 + 19) 1 = nI x3 := (leg_v w3).2.1
        rw [a0, a1, a2, a3]
        show nI x0 + nI 3 * nI x1 + nI 9 * nI x2 + nI 27 * nI x3 = _
        rw [pk_mul, pk_mul, pk_mul, nI_add, nI_add, nI_add]
        show _ = nI (ext (sg 0) k x0 k + 3 * ext (sg 1) k x1 k + 9 * ext (sg 2) k x2 k + 27 * ext (sg 3) k x3 k)
        rw [ext_k, ext_k, ext_k, ext_k]
      · show _ = extZ (ga 0) k v0.toInt k
        rw [extZ_k, show st0 I (1 + 1) (1 + 19) 4 = v0 from ev0]
      · show _ = extZ (ga 1) k v1.toInt k
        rw [extZ_k, show st0 I (1 + 10) (1 + 19) 4 = v1 from ev1]
    · have hne : s % 32 ≠ k % 32 := by omega
      rw [upd_ne hne, upd_ne hne, upd_ne hne]
      obtain ⟨a, b, c⟩ := hsc s (by omega) (by omega)
      refine ⟨?_, ?_, ?_⟩
      · show _ = nI (ext (sg 0) k _ s + 3 * ext (sg 1) k _ s + 9 * ext (sg 2) k _ s + 27 * ext (sg 3) k _ s)
        rw [ext_o z, ext_o z, ext_o z, ext_o z]
        exact a
      · show _ = extZ (ga 0) k _ s
        rw [extZ_o z]
        exact b
      · show _ = extZ (ga 1) k _ s
        rw [extZ_o z]
        exact c
