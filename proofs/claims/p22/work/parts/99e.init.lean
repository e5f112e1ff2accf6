/-! the rows that the constructor makes, and what holds of them -/
def I0 : SI := fun k => if k = 0 then z0 else if k < 27 then brRw (k - 1) else if k < 53 then brRw (k - 27) else if k < 55 then z0 else if k < 81 then brRw (k - 55) else if k < 107 then brRw (k - 81) else if k < 133 then brRw (k - 107) else if k < 159 then brRw (k - 133) else z0
def L0 : SL := fun _ => zL
theorem I0_br {X : Nat} (hX : X = 1 ∨ X = 27 ∨ X = 55 ∨ X = 81 ∨ X = 107 ∨ X = 133) : ∀ j, j < 26 → I0 (X + j) = brRw j := by
  intro j hj
  unfold I0
  rcases hX with rfl | rfl | rfl | rfl | rfl | rfl
  · rw [if_neg (by omega), if_pos (by omega), show 1 + j - 1 = j by omega]
  · rw [if_neg (by omega), if_neg (by omega), if_pos (by omega), show 27 + j - 27 = j by omega]
  · rw [if_neg (by omega), if_neg (by omega), if_neg (by omega), if_neg (by omega), if_pos (by omega), show 55 + j - 55 = j by omega]
  · rw [if_neg (by omega), if_neg (by omega), if_neg (by omega), if_neg (by omega), if_neg (by omega), if_pos (by omega), show 81 + j - 81 = j by omega]
  · rw [if_neg (by omega), if_neg (by omega), if_neg (by omega), if_neg (by omega), if_neg (by omega), if_neg (by omega), if_pos (by omega), show 107 + j - 107 = j by omega]
  · rw [if_neg (by omega), if_neg (by omega), if_neg (by omega), if_neg (by omega), if_neg (by omega), if_neg (by omega), if_neg (by omega), if_pos (by omega), show 133 + j - 133 = j by omega]
theorem legI0 {r : Nat → Int32} (h : ∀ f, f < 7 → r f = 0) : LegI r 0 :=
  LegI.cong (a := fun _ => 0) ⟨Or.inl rfl, Or.inl rfl, 0, 0, 0, 0, 0, rfl, rfl, rfl, rfl, rfl, rfl, Nat.le_refl _, Nat.le_refl _, fun _ _ => rfl, fun q => absurd rfl q⟩ h
theorem loI0 {r : Nat → Int32} (h : ∀ f, f < 8 → 4 ≤ f → r f = 0) : LoI r :=
  LoI.cong (b := fun _ => 0) ⟨Or.inl rfl, Or.inl rfl, fun q => absurd rfl q, by decide, by decide, by decide⟩ (fun f h1 h2 => h f h2 h1)
theorem ftI0 {n t u : Nat → Int32} (hn : n 3 = 0) (ht : ∀ f, f < 3 → t f = 0) : FtI n t u 0 := by
  refine ⟨fun f hf => Or.inl (ht f hf), ?_, fun f hf q => absurd (ht f hf) q⟩
  rw [hn, ht 0 (by decide), ht 1 (by decide), ht 2 (by decide)]
  rfl
theorem blk0 {B : Nat} (hB : B = 1 ∨ B = 27 ∨ B = 55 ∨ B = 81 ∨ B = 107 ∨ B = 133) : BlkI I0 B 0 := by
  have e := I0_br hB
  have e0 : I0 B = brRw 0 := e 0 (by decide)
  have e1 : I0 (B + 1) = brRw 1 := e 1 (by decide)
  have e2 : I0 (B + 1 + 1) = brRw 2 := e 2 (by decide)
  have e3 : I0 (B + 1 + 2) = brRw 3 := e 3 (by decide)
  have e6 : I0 (B + 1 + 5) = brRw 6 := e 6 (by decide)
  have e7 : I0 (B + 1 + 6) = brRw 7 := e 7 (by decide)
  have e8 : I0 (B + 1 + 7) = brRw 8 := e 8 (by decide)
  have e10 : I0 (B + 10) = brRw 10 := e 10 (by decide)
  have e11 : I0 (B + 10 + 1) = brRw 11 := e 11 (by decide)
  have e12 : I0 (B + 10 + 2) = brRw 12 := e 12 (by decide)
  have e15 : I0 (B + 10 + 5) = brRw 15 := e 15 (by decide)
  have e16 : I0 (B + 10 + 6) = brRw 16 := e 16 (by decide)
  have e17 : I0 (B + 10 + 7) = brRw 17 := e 17 (by decide)
  unfold BlkI LdI
  rw [e0, e1, e2, e3, e6, e7, e8, e10, e11, e12, e15, e16, e17]
  exact ⟨by decide +kernel, ⟨legI0 (by decide +kernel), legI0 (by decide +kernel), loI0 (by decide +kernel), ftI0 (by decide +kernel) (by decide +kernel)⟩, ⟨legI0 (by decide +kernel), legI0 (by decide +kernel), loI0 (by decide +kernel), ftI0 (by decide +kernel) (by decide +kernel)⟩⟩
theorem st0I : StI I0 0 := by
  refine ⟨blk0 (Or.inl rfl), by decide +kernel, by decide +kernel, by decide +kernel, 0, 0, ⟨by decide +kernel, by decide +kernel, by decide, by decide, fun j hj => ⟨0, by decide, blk0 ?_⟩⟩, Nat.le_refl _⟩
  omega
theorem row0 : I0 21 0 = 2 ∧ I0 21 2 = 5000 ∧ I0 21 4 = 1000000 ∧ I0 21 3 = 20 := by decide +kernel
theorem dv0r : ∀ j, j < 2 → I0 (dvc j) 0 = 50 ∧ I0 (dvc j) 1 = 10 ∧ I0 (dvc j) 2 = 1000 ∧ I0 (ldb j) 6 = 0 := by decide +kernel
/-! the world that the constructor makes, as the rows' world -/
theorem ga_swap {E : Ev} {ad : Nat → Nat} {n : Nat} {w : Nat → va_E} {H : Heap} (h : GA E ad n w H) {i : Nat} {a a' : ClassId × vp_A} (hi : i < n) (hw : w i = .inl a) (he : vp_cell a.1 a.2 = vp_cell a'.1 a'.2) : GA E ad n (upw w i (.inl a')) H := by
  have hc : (sw ad n w)[i]? = some (ad i, .inl a) := by rw [sw_get hi, hw]
  have h1 : H[ad i]? = some (vp_cell a.1 a.2) := h.1 i _ hc
  rw [he] at h1
  have hP := h.1.set h.2 hc (e := .inl a') (H1 := H) h1 (fun _ _ => rfl)
  have hD := h.2.set hc (e := .inl a')
  rw [sw_set hi] at hP hD
  exact ⟨hP, hD⟩
theorem blk_cw {E : Ev} {ad : Nat → Nat} {w : Nat → va_E} {X : Nat} (h : brBlk E ad w X) (hk : ∀ j, j < 26 → sh (X + j) = brKs.getD j 99) (hI : ∀ j, j < 26 → I0 (X + j) = brRw j) : ∀ k, X ≤ k → k < X + 26 → w k = cw (EA E ad) I0 L0 k := by
  intro k h1 h2
  have := h (k - X) (show k - X < 26 by omega)
  have a := hk (k - X) (by omega)
  have b := hI (k - X) (by omega)
  rw [show X + (k - X) = k by omega] at this a b
  rw [this]
  show _ = cl (EA E ad) (sh k) k (I0 k) (L0 k)
  rw [a, b]
  rfl
theorem ga_cw {E : Ev} {ad : Nat → Nat} {w : Nat → va_E} {H : Heap} (h : GA E ad 161 w H) (hT : TopOk E ad w 0) : GW (EA E ad) 161 (cw (EA E ad) I0 L0) H := by
  obtain ⟨t0, t1, t2, ⟨s0, s1, s2, s3, s4, s5⟩, tx⟩ := hT
  have h' := ga_swap h (i := 54) (a' := (E.2.1 4, 4, .inr (.inr (.inr (.inr (fun j => some (ad (55 + 26 * j)))))))) (by decide) s1 rfl
  have e1 := blk_cw t1 (by decide +kernel) (I0_br (Or.inl rfl))
  have e2 := blk_cw t2 (by decide +kernel) (I0_br (Or.inr (Or.inl rfl)))
  have e3 := blk_cw s2 (by decide +kernel) (I0_br (Or.inr (Or.inr (Or.inl rfl))))
  have e4 := blk_cw s3 (by decide +kernel) (I0_br (Or.inr (Or.inr (Or.inr (Or.inl rfl)))))
  have e5 := blk_cw s4 (by decide +kernel) (I0_br (Or.inr (Or.inr (Or.inr (Or.inr (Or.inl rfl))))))
  have e6 := blk_cw s5 (by decide +kernel) (I0_br (Or.inr (Or.inr (Or.inr (Or.inr (Or.inr rfl))))))
  have x0 := tx 0 (by decide)
  have x1 := tx 1 (by decide)
  have key : ∀ k, k < 161 → upw w 54 (.inl (E.2.1 4, 4, .inr (.inr (.inr (.inr (fun j => some (ad (55 + 26 * j)))))))) k = cw (EA E ad) I0 L0 k := by
    intro k hk
    by_cases q : k = 54
    · subst q
      rw [upw_eq]
      rfl
    · rw [upw_ne q]
      rcases (show k = 0 ∨ (1 ≤ k ∧ k < 1 + 26) ∨ (27 ≤ k ∧ k < 27 + 26) ∨ k = 53 ∨ (55 ≤ k ∧ k < 55 + 26) ∨ (81 ≤ k ∧ k < 81 + 26) ∨ (107 ≤ k ∧ k < 107 + 26) ∨ (133 ≤ k ∧ k < 133 + 26) ∨ k = 159 ∨ k = 160 by omega) with r | ⟨r1, r2⟩ | ⟨r1, r2⟩ | r | ⟨r1, r2⟩ | ⟨r1, r2⟩ | ⟨r1, r2⟩ | ⟨r1, r2⟩ | r | r
      · subst r; exact t0
      · exact e1 k r1 r2
      · exact e2 k r1 r2
      · subst r; exact s0
      · exact e3 k r1 r2
      · exact e4 k r1 r2
      · exact e5 k r1 r2
      · exact e6 k r1 r2
      · subst r; exact x0
      · subst r; exact x1
  show va_P E.1 vwCl (sw ad 161 (cw (EA E ad) I0 L0)) H ∧ va_D (e_A E) (sw ad 161 (cw (EA E ad) I0 L0))
  rw [← sw_congr (ad := ad) (fun k hk => ⟨rfl, key k hk⟩)]
  exact h'
