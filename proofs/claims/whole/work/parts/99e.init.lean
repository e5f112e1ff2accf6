/-! the rows that the two constructors make: the relation holds -/
def I0 : SI := fun k => if k = 0 then z0 else if k < 27 then brRw (k - 1) else if k < 53 then brRw (k - 27) else if k < 55 then z0 else if k < 81 then brRw (k - 55) else if k < 107 then brRw (k - 81) else if k < 133 then brRw (k - 107) else if k < 159 then brRw (k - 133) else if k = 162 then d0 else z0
def L0 : SL := fun _ => zL
theorem legR0 {p d : Nat → Int32} {l : Nat} (h0 : p 0 = 0 ∧ d l = 0) (h1 : p 1 = 0 ∧ d (l + 1) = 0) (h2 : p 2 = 0 ∧ d (l + 2) = -1) (h3 : p 3 = d (l + 3)) (h4 : p 4 = 0 ∧ d (l + 4) = 0) (h5 : p 5 = 0 ∧ d (l + 5) = 0) (h6 : p 6 = d (l + 6)) : LegR p d l 0 :=
  ⟨h0.1.trans h0.2.symm, h1.1.trans h1.2.symm, h3, h4.1.trans h4.2.symm, h5.1.trans h5.2.symm, h6, Or.inl h0.1, Or.inl h1.1, 0, 0, h4.1, h5.1, Nat.le_refl _, Or.inl ⟨rfl, h2.2, h2.1, h1.1⟩⟩
theorem ftR0 {t u w n d : Nat → Int32} {L : Nat} (hn : n 3 = ltdF d L) (hR : d (L + 21) = 0) (ht : t 0 = 0 ∧ t 1 = 0 ∧ t 2 = 0) (hd : d (L + 12) = -1 ∧ d (L + 15) = -1 ∧ d (L + 18) = -1) : FtR t u w n d L 0 0 := by
  obtain ⟨t0, t1, t2⟩ := ht
  obtain ⟨e0, e1, e2⟩ := hd
  refine ⟨hn, fun _ => 0, fun _ => 0, 0, hR, Nat.le_refl _, f3 (Or.inl ⟨t0, e0⟩) (Or.inl ⟨t1, e1⟩) (Or.inl ⟨t2, e2⟩), fun f g hf hg h1 => ?_⟩
  exfalso
  rcases (show f = 0 ∨ f = 1 ∨ f = 2 by omega) with rfl | rfl | rfl
  · rw [t0] at h1; exact absurd h1 (by decide)
  · rw [t1] at h1; exact absurd h1 (by decide)
  · rw [t2] at h1; exact absurd h1 (by decide)
theorem ldX0a : LdX I0 2 d0 8 40 0 := ⟨legR0 (by decide +kernel) (by decide +kernel) (by decide +kernel) (by decide +kernel) (by decide +kernel) (by decide +kernel) (by decide +kernel), legR0 (by decide +kernel) (by decide +kernel) (by decide +kernel) (by decide +kernel) (by decide +kernel) (by decide +kernel) (by decide +kernel),
  ⟨by decide +kernel, by decide +kernel, by decide +kernel, by decide +kernel, by decide +kernel, Or.inl (by decide +kernel), by decide +kernel, Or.inl (by decide +kernel), Or.inl (by decide +kernel), ⟨0, by decide +kernel, by decide⟩, by decide +kernel, by decide +kernel⟩,
  ⟨by decide +kernel, ⟨50, by decide +kernel, by decide, by decide⟩, ⟨10, by decide +kernel, by decide⟩⟩, ftR0 (by decide +kernel) (by decide +kernel) (by decide +kernel) (by decide +kernel)⟩
theorem ldX0b : LdX I0 11 d0 24 70 0 := ⟨legR0 (by decide +kernel) (by decide +kernel) (by decide +kernel) (by decide +kernel) (by decide +kernel) (by decide +kernel) (by decide +kernel), legR0 (by decide +kernel) (by decide +kernel) (by decide +kernel) (by decide +kernel) (by decide +kernel) (by decide +kernel) (by decide +kernel),
  ⟨by decide +kernel, by decide +kernel, by decide +kernel, by decide +kernel, by decide +kernel, Or.inl (by decide +kernel), by decide +kernel, Or.inl (by decide +kernel), Or.inl (by decide +kernel), ⟨0, by decide +kernel, by decide⟩, by decide +kernel, by decide +kernel⟩,
  ⟨by decide +kernel, ⟨50, by decide +kernel, by decide, by decide⟩, ⟨10, by decide +kernel, by decide⟩⟩, ftR0 (by decide +kernel) (by decide +kernel) (by decide +kernel) (by decide +kernel)⟩
theorem relB0 : RelB I0 L0 d0 0 0 := by
  refine ⟨⟨by decide +kernel, by decide +kernel, ⟨by decide +kernel, ⟨2, by decide +kernel, by decide⟩, ⟨3, by decide +kernel, by decide⟩⟩, ldX0a, ldX0b, ⟨by decide +kernel, fun j hj => absurd hj (by rw [show Nat.min 0 32 = 0 from rfl]; omega)⟩, by decide +kernel, by decide +kernel, by decide +kernel⟩, by decide, by decide +kernel, by decide +kernel, by decide +kernel⟩
theorem I0d : I0 162 = d0 := rfl
theorem rel0 : Rel I0 L0 := by
  refine ⟨0, 0, 0, 0, ⟨?_, ⟨by decide, by decide, by decide +kernel, by decide +kernel, fun j hj => absurd hj (Nat.not_lt_zero _)⟩, by decide, by decide +kernel, fun j hj => absurd hj (Nat.not_lt_zero _)⟩, by decide +kernel, by decide +kernel⟩
  rw [I0d]
  exact relB0
/-! the world that the constructors make, as the rows' world -/
theorem ga_swap {E : Ev} {ad : Nat → Nat} {n : Nat} {w : Nat → va_E} {H : Heap} (h : GA E ad n w H) {i : Nat} {a a' : ClassId × vp_A} (hi : i < n) (hw : w i = .inl a) (he : vp_cell a.1 a.2 = vp_cell a'.1 a'.2) : GA E ad n (upw w i (.inl a')) H := by
  have hc : (sw ad n w)[i]? = some (ad i, .inl a) := by rw [sw_get hi, hw]
  have h1 : H[ad i]? = some (vp_cell a.1 a.2) := h.1 i _ hc
  rw [he] at h1
  have hP := h.1.set h.2 hc (e := .inl a') (H1 := H) h1 (fun _ _ => rfl)
  have hD := h.2.set hc (e := .inl a')
  rw [sw_set hi] at hP hD
  exact ⟨hP, hD⟩
theorem blk_cw {E : Ev} {ad : Nat → Nat} {w : Nat → va_E} {X : Nat} (h : brBlk E ad w X) (hk : ∀ j, j < 26 → sh (X + j) = brKs.getD j 99) (hI : ∀ j, j < 26 → I0 (X + j) = brRw j) : ∀ k, X ≤ k → k < X + 26 → w k = cw (EA E ad) I0 L0 k := by
  intro k h1 h2
  have := h (k - X) (show k - X < 26 by omega)
  have a := hk (k - X) (by omega)
  have b := hI (k - X) (by omega)
  rw [show X + (k - X) = k by omega] at this a b
  rw [this]
  show _ = cl (EA E ad) (sh k) k (I0 k) (L0 k)
  rw [a, b]
  rfl
theorem I0_br {X : Nat} (hX : X = 1 ∨ X = 27 ∨ X = 55 ∨ X = 81 ∨ X = 107 ∨ X = 133) : ∀ j, j < 26 → I0 (X + j) = brRw j := by
  intro j hj
  unfold I0
  rcases hX with rfl | rfl | rfl | rfl | rfl | rfl
  · rw [if_neg (by omega), if_pos (by omega), show 1 + j - 1 = j by omega]
  · rw [if_neg (by omega), if_neg (by omega), if_pos (by omega), show 27 + j - 27 = j by omega]
  · rw [if_neg (by omega), if_neg (by omega), if_neg (by omega), if_neg (by omega), if_pos (by omega), show 55 + j - 55 = j by omega]
  · rw [if_neg (by omega), if_neg (by omega), if_neg (by omega), if_neg (by omega), if_neg (by omega), if_pos (by omega), show 81 + j - 81 = j by omega]
  · rw [if_neg (by omega), if_neg (by omega), if_neg (by omega), if_neg (by omega), if_neg (by omega), if_neg (by omega), if_pos (by omega), show 107 + j - 107 = j by omega]
  · rw [if_neg (by omega), if_neg (by omega), if_neg (by omega), if_neg (by omega), if_neg (by omega), if_neg (by omega), if_neg (by omega), if_pos (by omega), show 133 + j - 133 = j by omega]
theorem ga_cw {E : Ev} {ad : Nat → Nat} {w : Nat → va_E} {H : Heap} (h : GA E ad 168 w H) (hT : TopOk E ad w 0) (hM : ModOk d0 E ad w 161) : GW (EA E ad) 168 (cw (EA E ad) I0 L0) H := by
  obtain ⟨t0, t1, t2, ⟨s0, s1, s2, s3, s4, s5⟩, tx⟩ := hT
  obtain ⟨m0, m1, m2, m3, m4, m5, m6⟩ := hM
  have h' := ga_swap h (i := 54) (a' := (E.2.1 4, 4, .inr (.inr (.inr (.inr (fun j => some (ad (55 + 26 * j)))))))) (by decide) s1 rfl
  have e1 := blk_cw t1 (by decide +kernel) (I0_br (Or.inl rfl))
  have e2 := blk_cw t2 (by decide +kernel) (I0_br (Or.inr (Or.inl rfl)))
  have e3 := blk_cw s2 (by decide +kernel) (I0_br (Or.inr (Or.inr (Or.inl rfl))))
  have e4 := blk_cw s3 (by decide +kernel) (I0_br (Or.inr (Or.inr (Or.inr (Or.inl rfl)))))
  have e5 := blk_cw s4 (by decide +kernel) (I0_br (Or.inr (Or.inr (Or.inr (Or.inr (Or.inl rfl))))))
  have e6 := blk_cw s5 (by decide +kernel) (I0_br (Or.inr (Or.inr (Or.inr (Or.inr (Or.inr rfl))))))
  have x0 := tx 0 (by decide)
  have x1 := tx 1 (by decide)
  have key : ∀ k, k < 168 → upw w 54 (.inl (E.2.1 4, 4, .inr (.inr (.inr (.inr (fun j => some (ad (55 + 26 * j)))))))) k = cw (EA E ad) I0 L0 k := by
    intro k hk
    by_cases q : k = 54
    · subst q
      rw [upw_eq]
      rfl
    · rw [upw_ne q]
      rcases (show k = 0 ∨ (1 ≤ k ∧ k < 1 + 26) ∨ (27 ≤ k ∧ k < 27 + 26) ∨ k = 53 ∨ (55 ≤ k ∧ k < 55 + 26) ∨ (81 ≤ k ∧ k < 81 + 26) ∨ (107 ≤ k ∧ k < 107 + 26) ∨ (133 ≤ k ∧ k < 133 + 26) ∨ k = 159 ∨ k = 160 ∨ k = 161 ∨ k = 162 ∨ k = 163 ∨ k = 164 ∨ k = 165 ∨ k = 166 ∨ k = 167 by omega) with r | ⟨r1, r2⟩ | ⟨r1, r2⟩ | r | ⟨r1, r2⟩ | ⟨r1, r2⟩ | ⟨r1, r2⟩ | ⟨r1, r2⟩ | r | r | r | r | r | r | r | r | r
      · subst r; exact t0
      · exact e1 k r1 r2
      · exact e2 k r1 r2
      · subst r; exact s0
      · exact e3 k r1 r2
      · exact e4 k r1 r2
      · exact e5 k r1 r2
      · exact e6 k r1 r2
      · subst r; exact x0
      · subst r; exact x1
      · subst r; exact m0
      · subst r; exact m1
      · subst r; exact m2
      · subst r; exact m3
      · subst r; exact m4
      · subst r; exact m5
      · subst r; exact m6
  show va_P E.1 vwCl (sw ad 168 (cw (EA E ad) I0 L0)) H ∧ va_D (e_A E) (sw ad 168 (cw (EA E ad) I0 L0))
  rw [← sw_congr (ad := ad) (fun k hk => ⟨rfl, key k hk⟩)]
  exact h'
