/-! pure: a load of the class against the model's row -/
theorem i32_add {x y : Int32} (h1 : -2147483648 ≤ x.toInt + y.toInt) (h2 : x.toInt + y.toInt < 2147483648) : (x + y).toInt = x.toInt + y.toInt := by
  rw [Int32.toInt_add]
  exact Int.bmod_eq_of_le (by omega) (by omega)
theorem i32_sub {x y : Int32} (h1 : -2147483648 ≤ x.toInt - y.toInt) (h2 : x.toInt - y.toInt < 2147483648) : (x - y).toInt = x.toInt - y.toInt := by
  rw [Int32.toInt_sub]
  exact Int.bmod_eq_of_le (by omega) (by omega)
theorem t0 : (0 : Int32).toInt = 0 := by decide
theorem tM : (1000000 : Int32).toInt = 1000000 := by decide
theorem tm : (-1000000 : Int32).toInt = -1000000 := by decide
/-- toward 0, both ways of saying it -/
theorem twz_tow {c a : Int32} (ha0 : 0 ≤ a.toInt) (ha : a.toInt ≤ 2000) (h1 : -2000000 ≤ c.toInt) (h2 : c.toInt ≤ 2000000) : twz c a = towF c a := by
  have ea := i32_add (x := c) (y := a) (by omega) (by omega)
  have es := i32_sub (x := c) (y := a) (by omega) (by omega)
  have en := i32_sub (x := 0) (y := a) (by rw [t0]; omega) (by rw [t0]; omega)
  rw [t0] at en
  unfold twz towF minI maxI
  by_cases hc : c ≤ 0
  · have hc' := Int32.le_iff_toInt_le.mp hc
    rw [t0] at hc'
    rw [if_pos hc, if_neg (show ¬ a < c from fun q => by have := Int32.lt_iff_toInt_lt.mp q; omega)]
    by_cases q : c + a < 0
    · have q' := Int32.lt_iff_toInt_lt.mp q
      rw [t0, ea] at q'
      rw [if_pos q, if_pos (Int32.lt_iff_toInt_lt.mpr (by rw [en]; omega))]
    · rw [if_neg q]
      by_cases q2 : c < 0 - a
      · have q3 := Int32.lt_iff_toInt_lt.mp q2
        rw [en] at q3
        exact absurd (Int32.lt_iff_toInt_lt.mpr (by rw [t0, ea]; omega)) q
      · rw [if_neg q2]
  · have hc' : ¬ c.toInt ≤ 0 := fun q => hc (Int32.le_iff_toInt_le.mpr (by rw [t0]; exact q))
    rw [if_neg hc, if_neg (show ¬ c < 0 - a from fun q => by have := Int32.lt_iff_toInt_lt.mp q; rw [en] at this; omega)]
    by_cases q : 0 < c - a
    · have q' := Int32.lt_iff_toInt_lt.mp q
      rw [t0, es] at q'
      rw [if_pos q, if_pos (Int32.lt_iff_toInt_lt.mpr (by omega))]
    · rw [if_neg q]
      by_cases q2 : a < c
      · have q3 := Int32.lt_iff_toInt_lt.mp q2
        exact absurd (Int32.lt_iff_toInt_lt.mpr (by rw [t0, es]; omega)) q
      · rw [if_neg q2]
theorem clamp_eq (x : Int32) : maxI (-1000000) (minI 1000000 x) = clampM x := by
  unfold maxI minI clampM
  by_cases h1 : x < 1000000
  · have h1' := Int32.lt_iff_toInt_lt.mp h1
    rw [tM] at h1'
    rw [if_pos h1, if_neg (Classical.not_not.mpr (Int32.le_iff_toInt_le.mpr (by rw [tM]; omega)))]
    by_cases h2 : (-1000000 : Int32) < x
    · have h2' := Int32.lt_iff_toInt_lt.mp h2
      rw [if_pos h2, if_neg (Classical.not_not.mpr (Int32.le_iff_toInt_le.mpr (by omega)))]
    · rw [if_neg h2]
      by_cases h3 : (-1000000 : Int32) ≤ x
      · rw [if_neg (Classical.not_not.mpr h3)]
        have h3' := Int32.le_iff_toInt_le.mp h3
        have h2' : ¬ (-1000000 : Int32).toInt < x.toInt := fun q => h2 (Int32.lt_iff_toInt_lt.mpr q)
        exact Int32.toInt_inj.mp (by omega)
      · rw [if_pos h3]
  · have h1' : ¬ x.toInt < 1000000 := fun q => h1 (Int32.lt_iff_toInt_lt.mpr (by rw [tM]; exact q))
    rw [if_neg h1, if_pos (show (-1000000 : Int32) < 1000000 by decide)]
    by_cases h2 : x ≤ 1000000
    · rw [if_neg (Classical.not_not.mpr h2)]
      have h2' := Int32.le_iff_toInt_le.mp h2
      rw [tM] at h2'
      have hx : x.toInt = 1000000 := by omega
      rw [if_neg (Classical.not_not.mpr (Int32.le_iff_toInt_le.mpr (by rw [tm]; omega)))]
      exact Int32.toInt_inj.mp (by rw [tM, hx])
    · rw [if_pos h2]
theorem clampM_in (x : Int32) : -1000000 ≤ (clampM x).toInt ∧ (clampM x).toInt ≤ 1000000 := by
  unfold clampM
  by_cases h : x ≤ 1000000
  · rw [if_neg (Classical.not_not.mpr h)]
    by_cases h2 : (-1000000 : Int32) ≤ x
    · rw [if_neg (Classical.not_not.mpr h2)]
      have a := Int32.le_iff_toInt_le.mp h
      have b := Int32.le_iff_toInt_le.mp h2
      rw [tM] at a
      rw [tm] at b
      exact ⟨b, a⟩
    · rw [if_pos h2, tm]
      omega
  · rw [if_pos h, tM]
    omega
theorem abs_eq (c : Int32) : absI c = absM c := rfl
theorem clampL_eq (x : Int64) : maxL 0 (minL 2000000000 x) = clampL x := by
  unfold maxL minL clampL
  by_cases h1 : x < 2000000000
  · rw [if_pos h1]
    by_cases h2 : x < 0
    · rw [if_pos h2, if_pos (Int64.not_le.mpr h2)]
    · rw [if_neg h2, if_neg (Classical.not_not.mpr (Int64.not_lt.mp h2)), if_pos (Int64.le_iff_toInt_le.mpr (Int.le_of_lt (Int64.lt_iff_toInt_lt.mp h1)))]
  · rw [if_neg h1, if_neg (show ¬ (2000000000 : Int64) < 0 by decide)]
    have h1' : ¬ x.toInt < (2000000000 : Int64).toInt := fun q => h1 (Int64.lt_iff_toInt_lt.mpr q)
    have e : (2000000000 : Int64).toInt = 2000000000 := by decide
    have e0 : (0 : Int64).toInt = 0 := by decide
    rw [if_neg (Classical.not_not.mpr (Int64.le_iff_toInt_le.mpr (by rw [e0]; omega)))]
    by_cases h2 : x ≤ 2000000000
    · rw [if_pos h2]
      have h2' := Int64.le_iff_toInt_le.mp h2
      exact Int64.toInt_inj.mp (by omega)
    · rw [if_neg h2]
/-- the dials of a load, the settings -/
def DvR (dv d : Nat → Int32) (L : Nat) : Prop := (∀ f, f < 4 → dv f = d (L + f)) ∧ (∃ s, dv 0 = nI s ∧ 1 ≤ s ∧ s ≤ 1000) ∧ (∃ s, dv 1 = nI s ∧ s ≤ 100)
def SvR (sv d : Nat → Int32) : Prop := (∀ f, f < 6 → sv f = d (1 + f)) ∧ (∃ s, sv 0 = nI s ∧ s ≤ 20) ∧ (∃ s, sv 1 = nI s ∧ s ≤ 50)
/-- current, heat, chopper, eye, drive, run -/
def LoR (b d : Nat → Int32) (L : Nat) : Prop :=
  b 4 = d (L + 4) ∧ b 5 = d (L + 5) ∧ b 6 = d (L + 6) ∧ b 7 = d (L + 7) ∧ b 8 = d (L + 8) ∧ ((b 9 = 2 ∧ d (L + 9) = 9) ∨ (b 9 = d (L + 9) ∧ (b 9 = 0 ∨ b 9 = 1 ∨ b 9 = -1))) ∧ b 10 = d (L + 10) ∧ isb (b 6) ∧ isb (b 7) ∧ (∃ q, b 8 = nI q ∧ q ≤ 50) ∧ -1000000 ≤ (b 4).toInt ∧ (b 4).toInt ≤ 1000000
theorem LoR.cong {b b' d d' : Nat → Int32} {L : Nat} (h : LoR b d L) (hb : ∀ f, 4 ≤ f → f < 11 → b' f = b f) (hd : ∀ f, 4 ≤ f → f < 11 → d' (L + f) = d (L + f)) : LoR b' d' L := by
  unfold LoR
  rw [hb 4 (by decide) (by decide), hb 5 (by decide) (by decide), hb 6 (by decide) (by decide), hb 7 (by decide) (by decide), hb 8 (by decide) (by decide), hb 9 (by decide) (by decide), hb 10 (by decide) (by decide), hd 4 (by decide) (by decide), hd 5 (by decide) (by decide), hd 6 (by decide) (by decide), hd 7 (by decide) (by decide), hd 8 (by decide) (by decide), hd 9 (by decide) (by decide), hd 10 (by decide) (by decide)]
  exact h
theorem DvR.cong {dv dv' d d' : Nat → Int32} {L : Nat} (h : DvR dv d L) (hb : ∀ f, f < 4 → dv' f = dv f) (hd : ∀ f, f < 4 → d' (L + f) = d (L + f)) : DvR dv' d' L := by
  refine ⟨fun f hf => by rw [hb f hf, hd f hf]; exact h.1 f hf, ?_, ?_⟩
  · rw [hb 0 (by decide)]
    exact h.2.1
  · rw [hb 1 (by decide)]
    exact h.2.2
theorem SvR.cong {sv sv' d d' : Nat → Int32} (h : SvR sv d) (hb : ∀ f, f < 6 → sv' f = sv f) (hd : ∀ f, f < 6 → d' (1 + f) = d (1 + f)) : SvR sv' d' := by
  refine ⟨fun f hf => by rw [hb f hf, hd f hf]; exact h.1 f hf, ?_, ?_⟩
  · rw [hb 0 (by decide)]
    exact h.2.1
  · rw [hb 1 (by decide)]
    exact h.2.2
theorem drv_mdr {p q d : Nat → Int32} {l : Nat} (h1 : p 1 = d (l + 1)) (h2 : q 1 = d (l + 9)) : (drvF p q = 2 ∧ mdrF d l = 9) ∨ (drvF p q = mdrF d l ∧ (drvF p q = 0 ∨ drvF p q = 1 ∨ drvF p q = -1)) := by
  unfold drvF mdrF
  rw [h1, h2]
  by_cases a : d (l + 1) = 0
  · rw [if_pos a, if_pos a]
    exact Or.inl ⟨rfl, rfl⟩
  · rw [if_neg a, if_neg a]
    by_cases b : d (l + 9) = 0
    · rw [if_pos b, if_pos b]
      exact Or.inl ⟨rfl, rfl⟩
    · rw [if_neg b, if_neg b]
      by_cases c : d (l + 1) = d (l + 9)
      · rw [if_pos c]
        exact Or.inr ⟨rfl, Or.inl rfl⟩
      · rw [if_neg c]
        by_cases e : d (l + 1) = 1
        · rw [if_pos e]
          exact Or.inr ⟨rfl, Or.inr (Or.inl rfl)⟩
        · rw [if_neg e]
          exact Or.inr ⟨rfl, Or.inr (Or.inr rfl)⟩
theorem fl_v {d : Nat → Int32} {l L : Nat} : flF d l L (L + 9) = mdrF d l ∧ flF d l L (L + 10) = runM (d (L + 10)) (mdrF d l) ∧ flF d l L (L + 4) = mcurF d L (mdrF d l) := by
  unfold flF
  refine ⟨?_, ?_, ?_⟩
  · rw [upd_ne (by omega), upd_ne (by omega), upd_eq]
  · rw [upd_ne (by omega), upd_eq]
  · rw [upd_eq]
/-- drive, run and current: class and model -/
theorem flow_step {b1 p q d dv : Nat → Int32} {l L : Nat} (h4 : b1 4 = d (L + 4)) (h5 : b1 5 = d (L + 5)) (h6 : b1 6 = d (L + 6)) (h7 : b1 7 = d (L + 7)) (h8 : b1 8 = d (L + 8)) (h10 : b1 10 = (if drvF p q = 1 ∨ drvF p q = -1 then d (L + 10) + 1 else 0)) (h9 : b1 9 = drvF p q) (i6 : isb (b1 6)) (i7 : isb (b1 7)) (hq : ∃ s, b1 8 = nI s ∧ s ≤ 50)
    (hc1 : -1000000 ≤ (b1 4).toInt) (hc2 : (b1 4).toInt ≤ 1000000) (hdv : DvR dv d L) (e1 : p 1 = d (l + 1)) (e2 : q 1 = d (l + 9)) : LoR (upd b1 4 (curF b1 dv)) (flF d l L) L := by
  obtain ⟨f9, f10, f4⟩ := @fl_v d l L
  obtain ⟨hdv4, ⟨s0, hs0, hs0a, hs0b⟩, s1, hs1, hs1b⟩ := hdv
  have g0 : dv 0 = d L := hdv4 0 (by decide)
  have g1 := hdv4 1 (by decide)
  have hdr := drv_mdr (p := p) (q := q) e1 e2
  have hcur : curF b1 dv = mcurF d L (mdrF d l) := by
    unfold curF mcurF
    rw [clamp_eq, h9]
    congr 1
    have q0 : (dv 0).toInt = s0 := by rw [hs0, nI_toInt (by omega)]
    have q1 : (dv 1).toInt = s1 := by rw [hs1, nI_toInt (by omega)]
    rcases hdr with ⟨a, b⟩ | ⟨a, b⟩
    · rw [if_pos a, if_pos b, ← g0, ← g1, ← h4]
      have := i32_add (x := dv 0) (y := dv 1) (by omega) (by omega)
      exact twz_tow (by omega) (by omega) (by omega) (by omega)
    · rw [← a]
      have n2 : ¬ drvF p q = 2 := by rcases b with b | b | b <;> rw [b] <;> decide
      have n9 : ¬ drvF p q = 9 := by rcases b with b | b | b <;> rw [b] <;> decide
      rw [if_neg n2, if_neg n9, ← g0, ← g1, ← h4, Int32.mul_comm (drvF p q) (dv 0)]
      have hm : (dv 0 * drvF p q).toInt = 0 ∨ (dv 0 * drvF p q).toInt = s0 ∨ (dv 0 * drvF p q).toInt = -s0 := by
        rcases b with b | b | b
        · rw [b, Int32.mul_zero]
          exact Or.inl rfl
        · rw [b, Int32.mul_one]
          exact Or.inr (Or.inl q0)
        · refine Or.inr (Or.inr ?_)
          rw [b, Int32.mul_comm, ← Int32.neg_eq_neg_one_mul, Int32.toInt_neg, q0]
          exact Int.bmod_eq_of_le (by omega) (by omega)
      have := i32_add (x := b1 4) (y := dv 0 * drvF p q) (by omega) (by omega)
      exact twz_tow (by omega) (by omega) (by omega) (by omega)
  have hb := clampM_in (if mdrF d l = 9 then towF (d (L + 4)) (d L + d (L + 1)) else towF (d (L + 4) + mdrF d l * d L) (d (L + 1)))
  refine ⟨?_, ?_, ?_, ?_, ?_, ?_, ?_, i6, i7, hq, ?_, ?_⟩
  · rw [f4, upd_eq]
    exact hcur
  · rw [fl_ne (by omega) (by omega) (by omega), upd_ne (by omega)]
    exact h5
  · rw [fl_ne (by omega) (by omega) (by omega), upd_ne (by omega)]
    exact h6
  · rw [fl_ne (by omega) (by omega) (by omega), upd_ne (by omega)]
    exact h7
  · rw [fl_ne (by omega) (by omega) (by omega), upd_ne (by omega)]
    exact h8
  · rw [f9, upd_ne (by omega), h9]
    exact hdr
  · rw [f10, upd_ne (by omega), h10]
    unfold runM
    rcases hdr with ⟨a, b⟩ | ⟨a, b⟩
    · rw [a, b]
      rfl
    · rw [a]
  · rw [upd_eq, hcur]
    exact hb.1
  · rw [upd_eq, hcur]
    exact hb.2
theorem heat_step {b d sv : Nat → Int32} {L : Nat} (h : LoR b d L) (hs : sv 5 = d 6) : LoR (upd b 5 (heatF b (sv 5))) (htF d L) L := by
  obtain ⟨h4, h5, h6, h7, h8, h9, h10, i6, i7, hq, c1, c2⟩ := h
  have e : ∀ f, f ≠ 5 → htF d L (L + f) = d (L + f) := fun f hf => ht_ne (by omega)
  have u : ∀ f, f ≠ 5 → upd b 5 (heatF b (sv 5)) f = b f := fun f hf => upd_ne hf
  unfold LoR
  rw [u 4 (by decide), u 6 (by decide), u 7 (by decide), u 8 (by decide), u 9 (by decide), u 10 (by decide), e 4 (by decide), e 6 (by decide), e 7 (by decide), e 8 (by decide), e 9 (by decide), e 10 (by decide)]
  refine ⟨h4, ?_, h6, h7, h8, h9, h10, i6, i7, hq, c1, c2⟩
  unfold htF
  rw [upd_eq, upd_eq]
  unfold heatF
  rw [clampL_eq, h5, h4, hs]
  rfl
theorem look_step {b d dv : Nat → Int32} {L : Nat} (h : LoR b d L) (hdv : DvR dv d L) : LoR (lookF b dv) (lkF d L) L := by
  have h' := h
  obtain ⟨h4, h5, h6, h7, h8, h9, h10, i6, i7, ⟨q, hq, hq2⟩, c1, c2⟩ := h
  have g2 := hdv.1 2 (by decide)
  have g3 := hdv.1 3 (by decide)
  unfold lookF lkF
  by_cases hc : d (L + 6) = 1 ∧ d (L + 8) = 0
  · have hn : ¬ (b 6 = 0 ∨ 0 < b 8) := by
      rw [h6, h8, hc.1, hc.2]
      decide
    rw [if_neg hn, if_pos hc]
    have key : ∀ v : Int32, isb v → ∀ b' : Nat → Int32, b' 7 = v → (∀ f, f ≠ 7 → b' f = b f) → LoR b' (upd d (L + 7) v) L := by
      intro v hv b' e7 eo
      have u : ∀ f, f ≠ 7 → upd d (L + 7) v (L + f) = d (L + f) := fun f hf => upd_ne (by omega)
      unfold LoR
      rw [u 4 (by decide), u 5 (by decide), u 6 (by decide), u 8 (by decide), u 9 (by decide), u 10 (by decide), eo 4 (by decide), eo 5 (by decide), eo 6 (by decide), eo 8 (by decide), eo 9 (by decide), eo 10 (by decide), e7, upd_eq]
      exact ⟨h4, h5, h6, rfl, h8, h9, h10, i6, hv, ⟨q, hq, hq2⟩, c1, c2⟩
    have ea : absM (d (L + 4)) = absI (b 4) := by rw [h4]; rfl
    rw [ea, ← g2, ← g3]
    by_cases x1 : ¬ absI (b 4) < dv 2
    · rw [if_pos x1, if_pos x1]
      exact key 1 (Or.inr rfl) _ upd_eq (fun f hf => upd_ne hf)
    · rw [if_neg x1, if_neg x1]
      by_cases x2 : ¬ dv 2 - dv 3 < absI (b 4)
      · rw [if_pos x2, if_pos x2]
        exact key 0 (Or.inl rfl) _ upd_eq (fun f hf => upd_ne hf)
      · rw [if_neg x2, if_neg x2, ← h7]
        exact key (b 7) i7 b rfl (fun f hf => rfl)
  · have hn : b 6 = 0 ∨ 0 < b 8 := by
      rcases i6 with a | a
      · exact Or.inl a
      · refine Or.inr ?_
        have : ¬ d (L + 8) = 0 := fun z => hc ⟨by rw [← h6]; exact a, z⟩
        rw [← h8, hq] at this
        rw [hq]
        have hq0 : q ≠ 0 := fun z => this (by rw [z]; rfl)
        exact (nI_lt_iff (a := 0) (by decide) (by omega)).mpr (by omega)
    rw [if_pos hn, if_neg hc]
    exact h'
theorem dec_step {b d : Nat → Int32} {L : Nat} (h : LoR b d L) : LoR (if b 8 ≤ 0 then b else upd b 8 (b 8 - 1)) (dcM d L) L := by
  obtain ⟨h4, h5, h6, h7, h8, h9, h10, i6, i7, ⟨q, hq, hq2⟩, c1, c2⟩ := h
  have u : ∀ f, f ≠ 8 → dcM d L (L + f) = d (L + f) := fun f hf => dc_ne (by omega)
  have v : ∀ f, f ≠ 8 → (if b 8 ≤ 0 then b else upd b 8 (b 8 - 1)) f = b f := by
    intro f hf
    split
    · rfl
    · exact upd_ne hf
  have w : (if b 8 ≤ 0 then b else upd b 8 (b 8 - 1)) 8 = dcM d L (L + 8) ∧ ∃ s, (if b 8 ≤ 0 then b else upd b 8 (b 8 - 1)) 8 = nI s ∧ s ≤ 50 := by
    unfold dcM decF
    rw [upd_eq, ← h8]
    by_cases z : b 8 ≤ 0
    · rw [if_pos z, if_pos z, Int32.sub_zero]
      exact ⟨rfl, q, hq, hq2⟩
    · rw [if_neg z, if_neg z, upd_eq]
      refine ⟨rfl, q - 1, ?_, by omega⟩
      rw [hq]
      refine pk_sub (a := q) (b := 1) ?_
      have : q ≠ 0 := fun e => z (by rw [hq, e]; decide)
      omega
  unfold LoR
  rw [v 4 (by decide), v 5 (by decide), v 6 (by decide), v 7 (by decide), v 9 (by decide), v 10 (by decide), u 4 (by decide), u 5 (by decide), u 6 (by decide), u 7 (by decide), u 9 (by decide), u 10 (by decide)]
  exact ⟨h4, h5, h6, h7, w.1, h9, h10, i6, i7, w.2, c1, c2⟩
