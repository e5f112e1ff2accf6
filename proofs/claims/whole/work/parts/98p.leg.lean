/-! pure: a leg of the class against the model's row -/
def LegR (p d : Nat → Int32) (l k : Nat) : Prop :=
  p 0 = d l ∧ p 1 = d (l + 1) ∧ p 3 = d (l + 3) ∧ p 4 = d (l + 4) ∧ p 5 = d (l + 5) ∧ p 6 = d (l + 6) ∧ (p 0 = 0 ∨ p 0 = 1 ∨ p 0 = 2) ∧ (p 1 = 0 ∨ p 1 = 1 ∨ p 1 = 2) ∧
  ∃ a b, p 4 = nI a ∧ p 5 = nI b ∧ a + b ≤ k ∧ ((a + b = 0 ∧ d (l + 2) = -1 ∧ p 2 = nI k ∧ p 1 = 0) ∨ (0 < a + b ∧ ∃ s, s ≤ k ∧ d (l + 2) = nI s ∧ p 2 = nI s ∧ (p 1 ≠ 0 → s = 0)))
theorem LegR.cong {p p' d d' : Nat → Int32} {l k : Nat} (h : LegR p d l k) (hp : ∀ f, f < 7 → p' f = p f) (hd : ∀ f, f < 7 → d' (l + f) = d (l + f)) : LegR p' d' l k := by
  obtain ⟨h0, h1, h3, h4, h5, h6, h7, h8, a, b, ha, hb, hab, hs⟩ := h
  have e0 := hp 0 (by decide)
  have e1 := hp 1 (by decide)
  have e2 := hp 2 (by decide)
  have e3 := hp 3 (by decide)
  have e4 := hp 4 (by decide)
  have e5 := hp 5 (by decide)
  have e6 := hp 6 (by decide)
  have g0 : d' l = d l := hd 0 (by decide)
  have g1 := hd 1 (by decide)
  have g2 := hd 2 (by decide)
  have g3 := hd 3 (by decide)
  have g4 := hd 4 (by decide)
  have g5 := hd 5 (by decide)
  have g6 := hd 6 (by decide)
  unfold LegR
  rw [e0, e1, e2, e3, e4, e5, e6, g0, g1, g2, g3, g4, g5, g6]
  exact ⟨h0, h1, h3, h4, h5, h6, h7, h8, a, b, ha, hb, hab, hs⟩
theorem nI_inj {a b : Nat} (ha : a < 2 ^ 31) (hb : b < 2 ^ 31) (h : nI a = nI b) : a = b := (nI_eq ha hb).mp h
theorem nI_z {a : Nat} (ha : a < 2 ^ 31) : nI a = 0 ↔ a = 0 := nI_eq (b := 0) ha (by decide)
theorem nI_lt_iff {a b : Nat} (ha : a < 2 ^ 31) (hb : b < 2 ^ 31) : nI a < nI b ↔ a < b := by
  rw [Int32.lt_iff_toInt_lt, nI_toInt ha, nI_toInt hb]
  omega
theorem nI_le_iff {a b : Nat} (ha : a < 2 ^ 31) (hb : b < 2 ^ 31) : nI a ≤ nI b ↔ a ≤ b := by
  rw [Int32.le_iff_toInt_le, nI_toInt ha, nI_toInt hb]
  omega
theorem nI_ne_m1 {a : Nat} (ha : a < 2 ^ 31) : ¬ nI a = -1 := by
  intro h
  have h2 := congrArg Int32.toInt h
  rw [nI_toInt ha] at h2
  have e : (-1 : Int32).toInt = -1 := by decide
  omega
theorem nI_s (a : Nat) : nI a + 1 = nI (a + 1) := nI_add a 1
/-- the state that a leg gets: class and model -/
theorem st_now {p d : Nat → Int32} {l k D : Nat} {w dead : Int32} (h : LegR p d l k) (hk : k < 2 ^ 30) (hD : dead = nI D) (hD2 : D < 2 ^ 30) (hd : d 1 = dead) : stF p w dead = nowF d l w := by
  obtain ⟨h0, h1, h3, h4, h5, h6, h7, h8, a, b, ha, hb, hab, hs⟩ := h
  unfold stF nowF
  rw [← h1]
  by_cases hw : w = p 1
  · rw [if_pos (Or.inl hw), if_pos hw]
  · rw [if_neg hw]
    by_cases hw0 : w = 0
    · rw [if_pos hw0]
      by_cases hc : (w = p 1 ∨ (p 4 = 0 ∧ p 5 = 0) ∨ ¬ p 2 < dead)
      · rw [if_pos hc]
      · rw [if_neg hc, hw0]
    · rw [if_neg hw0]
      rcases hs with ⟨g0, g1, g2, g3⟩ | ⟨g0, s, g1, g2, g3, g4⟩
      · have e4 : p 4 = 0 := by rw [ha, show a = 0 by omega]; rfl
        have e5 : p 5 = 0 := by rw [hb, show b = 0 by omega]; rfl
        rw [if_pos (Or.inr (Or.inl ⟨e4, e5⟩)), if_pos ⟨g3, Or.inl g1⟩]
      · have hn : ¬ (p 4 = 0 ∧ p 5 = 0) := by
          rw [ha, hb, nI_z (by omega), nI_z (by omega)]
          omega
        rw [g2, hd, g3, hD]
        by_cases hp1 : p 1 = 0
        · by_cases hsd : s < D
          · have q1 : nI s < nI D := (nI_lt_iff (by omega) (by omega)).mpr hsd
            rw [if_neg (fun q => q.elim hw (fun q => q.elim hn (fun q => q q1))), if_neg (fun q => q.2.elim (nI_ne_m1 (by omega)) (fun q => q q1)), if_neg]
            intro q
            have := (nI_z (a := D) (by omega)).mp q
            omega
          · have q1 : ¬ nI s < nI D := fun q => hsd ((nI_lt_iff (by omega) (by omega)).mp q)
            rw [if_pos (Or.inr (Or.inr q1)), if_pos ⟨hp1, Or.inr q1⟩]
        · have hs0 := g4 hp1
          subst hs0
          rw [if_neg (fun q : p 1 = 0 ∧ _ => hp1 q.1)]
          by_cases hD0 : nI D = 0
          · rw [if_pos hD0, if_pos (Or.inr (Or.inr (by rw [hD0]; decide)))]
          · rw [if_neg hD0, if_neg]
            intro q
            rcases q with q | q | q
            · exact hw q
            · exact hn q
            · apply q
              have : D ≠ 0 := fun q2 => hD0 (by rw [q2]; rfl)
              exact (nI_lt_iff (by decide) (by omega)).mpr (by omega)
/-- the values of a model's leg behind its turn -/
theorem tl_v {d : Nat → Int32} {l L : Nat} {now : Int32} (hl : 8 ≤ l) (hL : l + 7 ≤ L) (h100 : L + 21 < 100) :
    tlF d l L now l = d l ∧ tlF d l L now (l + 1) = now ∧ tlF d l L now (l + 2) = sinF now (d (l + 2)) ∧ tlF d l L now (l + 3) = (if now = d (l + 1) then d (l + 3) else d (l + 3) + 1) ∧
    tlF d l L now (l + 4) = (if ixF now = 0 then d (l + 4) + 1 else d (l + 4)) ∧ tlF d l L now (l + 5) = (if ixF now = 1 then d (l + 5) + 1 else d (l + 5)) ∧ tlF d l L now (l + 6) = (if ixF now = 2 then d (l + 6) + 1 else d (l + 6)) ∧
    tlF d l L now (L + 8) = (if now = d (l + 1) then d (L + 8) else d 2) ∧ tlF d l L now 100 = (if now = d (l + 1) then d 100 else d 100 + 1) := by
  have hx := @ixF_le now
  have s2 : swF d l L now (l + 2) = d (l + 2) := sw_ne (by omega) (by omega) (by omega) (by omega)
  have s1 : swF d l L now (l + 1) = now := by
    unfold swF
    split
    · exact upd_eq
    · rw [upd_ne (by omega), upd_ne (by omega), upd_ne (by omega), upd_eq]
  have s3 : swF d l L now (l + 3) = (if now = d (l + 1) then d (l + 3) else d (l + 3) + 1) := by
    unfold swF
    split
    · rw [upd_ne (by omega)]
    · rw [upd_ne (by omega), upd_ne (by omega), upd_eq]
  have s8 : swF d l L now (L + 8) = (if now = d (l + 1) then d (L + 8) else d 2) := by
    unfold swF
    split
    · rw [upd_ne (by omega)]
    · rw [upd_eq]
  have s100 : swF d l L now 100 = (if now = d (l + 1) then d 100 else d 100 + 1) := by
    unfold swF
    split
    · rw [upd_ne (by omega)]
    · rw [upd_ne (by omega), upd_eq]
  have s0 : swF d l L now l = d l := sw_ne (by omega) (by omega) (by omega) (by omega)
  have s4 : swF d l L now (l + 4) = d (l + 4) := sw_ne (by omega) (by omega) (by omega) (by omega)
  have s5 : swF d l L now (l + 5) = d (l + 5) := sw_ne (by omega) (by omega) (by omega) (by omega)
  have s6 : swF d l L now (l + 6) = d (l + 6) := sw_ne (by omega) (by omega) (by omega) (by omega)
  unfold tlF
  refine ⟨?_, ?_, ?_, ?_, ?_, ?_, ?_, ?_, ?_⟩
  · rw [upd_ne (by omega), upd_ne (by omega), s0]
  · rw [upd_ne (by omega), upd_ne (by omega), s1]
  · rw [upd_ne (by omega), upd_eq, s2]
  · rw [upd_ne (by omega), upd_ne (by omega), s3]
  · by_cases q : ixF now = 0
    · rw [if_pos q, q, upd_eq, upd_ne (by omega)]
      exact congrArg (· + 1) s4
    · rw [if_neg q, upd_ne (by omega), upd_ne (by omega), s4]
  · by_cases q : ixF now = 1
    · rw [if_pos q, q, show l + 4 + 1 = l + 5 from rfl, upd_eq, upd_ne (by omega), s5]
    · rw [if_neg q, upd_ne (by omega), upd_ne (by omega), s5]
  · by_cases q : ixF now = 2
    · rw [if_pos q, q, show l + 4 + 2 = l + 6 from rfl, upd_eq, upd_ne (by omega), s6]
    · rw [if_neg q, upd_ne (by omega), upd_ne (by omega), s6]
  · rw [upd_ne (by omega), upd_ne (by omega), s8]
  · rw [upd_ne (by omega), upd_ne (by omega), s100]
/-- the values of a class's leg behind its slot -/
theorem leg_v {p : Nat → Int32} {w dead now : Int32} (hn : stF p w dead = now) :
    legF p w dead 0 = p 0 ∧ legF p w dead 1 = now ∧ legF p w dead 2 = (if now = 0 then p 2 + 1 else 0) ∧ legF p w dead 3 = (if now = p 1 then p 3 else p 3 + 1) ∧
    legF p w dead 4 = (if now = 0 then p 4 else if now = 1 then p 4 + 1 else p 4) ∧ legF p w dead 5 = (if now = 0 then p 5 else if now = 1 then p 5 else p 5 + 1) ∧ legF p w dead 6 = (if now = 0 then p 6 + 1 else p 6) := by
  unfold legF
  rw [hn]
  by_cases h : now = p 1
  · rw [if_pos h, if_pos h]
    unfold cntF
    rw [show upd p 1 now 1 = now from rfl]
    by_cases h0 : now = 0
    · rw [if_pos h0, if_pos h0, if_pos h0, if_pos h0, if_pos h0]
      exact ⟨rfl, rfl, rfl, rfl, rfl, rfl, rfl⟩
    · rw [if_neg h0, if_neg h0, if_neg h0, if_neg h0, if_neg h0]
      by_cases h1 : now = 1
      · rw [if_pos h1, if_pos h1, if_pos h1]
        exact ⟨rfl, rfl, rfl, rfl, rfl, rfl, rfl⟩
      · rw [if_neg h1, if_neg h1, if_neg h1]
        exact ⟨rfl, rfl, rfl, rfl, rfl, rfl, rfl⟩
  · rw [if_neg h, if_neg h]
    unfold cntF
    rw [show upd (upd p 1 now) 3 (p 3 + 1) 1 = now from rfl]
    by_cases h0 : now = 0
    · rw [if_pos h0, if_pos h0, if_pos h0, if_pos h0, if_pos h0]
      exact ⟨rfl, rfl, rfl, rfl, rfl, rfl, rfl⟩
    · rw [if_neg h0, if_neg h0, if_neg h0, if_neg h0, if_neg h0]
      by_cases h1 : now = 1
      · rw [if_pos h1, if_pos h1, if_pos h1]
        exact ⟨rfl, rfl, rfl, rfl, rfl, rfl, rfl⟩
      · rw [if_neg h1, if_neg h1, if_neg h1]
        exact ⟨rfl, rfl, rfl, rfl, rfl, rfl, rfl⟩
theorem leg_step {p d : Nat → Int32} {l L k D : Nat} {w dead : Int32} (h : LegR p d l k) (hk : k < 2 ^ 30) (hD : dead = nI D) (hD2 : D < 2 ^ 30) (hd : d 1 = dead) (hw : w = 0 ∨ w = 1 ∨ w = 2) (hl : 8 ≤ l) (hL : l + 7 ≤ L) (h100 : L + 21 < 100) :
    LegR (legF p w dead) (tlF d l L (nowF d l w)) l (k + 1) := by
  have hst := st_now (w := w) h hk hD hD2 hd
  have hni := nowF_in (d := d) (l := l) hw
  obtain ⟨v0, v1, v2, v3, v4, v5, v6⟩ := leg_v hst
  obtain ⟨m0, m1, m2, m3, m4, m5, m6, -, -⟩ := tl_v (d := d) (now := nowF d l w) hl hL h100
  generalize nowF d l w = now at *
  obtain ⟨h0, h1, h3, h4, h5, h6, h7, h8, a, b, ha, hb, hab, hs⟩ := h
  unfold LegR
  rw [v0, v1, v2, v3, v4, v5, v6, m0, m1, m2, m3, m4, m5, m6]
  refine ⟨h0, rfl, ?_, ?_, ?_, ?_, h7, hni, ?_⟩
  · rw [h1, h3]
  · rw [h4]
    rcases hni with rfl | rfl | rfl
    · rfl
    · rfl
    · rfl
  · rw [h5]
    rcases hni with rfl | rfl | rfl
    · rfl
    · rfl
    · rfl
  · rw [h6]
    rcases hni with rfl | rfl | rfl
    · rfl
    · rfl
    · rfl
  · rcases hni with rfl | rfl | rfl
    · refine ⟨a, b, ha, hb, by omega, ?_⟩
      rcases hs with ⟨g0, g1, g2, g3⟩ | ⟨g0, s, g1, g2, g3, g4⟩
      · refine Or.inl ⟨g0, ?_, ?_, rfl⟩
        · rw [g1]
          rfl
        · rw [if_pos rfl, g2]
          exact nI_s k
      · refine Or.inr ⟨g0, s + 1, by omega, ?_, ?_, fun q => absurd rfl q⟩
        · rw [g2]
          unfold sinF
          rw [if_neg (by decide), if_neg (nI_ne_m1 (by omega))]
          exact nI_s s
        · rw [if_pos rfl, g3]
          exact nI_s s
    · refine ⟨a + 1, b, ?_, hb, by omega, Or.inr ⟨by omega, 0, by omega, ?_, rfl, fun _ => rfl⟩⟩
      · rw [show (if (1 : Int32) = 0 then p 4 else if (1 : Int32) = 1 then p 4 + 1 else p 4) = p 4 + 1 from rfl, ha]
        exact nI_s a
      · rfl
    · refine ⟨a, b + 1, ha, ?_, by omega, Or.inr ⟨by omega, 0, by omega, ?_, rfl, fun _ => rfl⟩⟩
      · rw [show (if (2 : Int32) = 0 then p 5 else if (2 : Int32) = 1 then p 5 else p 5 + 1) = p 5 + 1 from rfl, hb]
        exact nI_s b
      · rfl
