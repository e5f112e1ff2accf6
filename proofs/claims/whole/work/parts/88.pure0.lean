theorem isB_h {T j : Nat} (hj : j < 4) (h : T = 55 + 26 * j) : IsB T := by
  rcases (show j = 0 ∨ j = 1 ∨ j = 2 ∨ j = 3 by omega) with rfl | rfl | rfl | rfl
  · subst h; unfold IsB; decide
  · subst h; unfold IsB; decide
  · subst h; unfold IsB; decide
  · subst h; unfold IsB; decide
theorem nI_ne {a b : Nat} (ha : a < 2 ^ 31) (hb : b < 2 ^ 31) (h : a ≠ b) : ¬ nI a = nI b := fun q => h ((nI_eq ha hb).mp q)
theorem upd_ne {a : Nat → Int32} {k z : Nat} {x : Int32} (h : z ≠ k) : upd a k x z = a z := if_neg h
theorem upd_eq {a : Nat → Int32} {k : Nat} {x : Int32} : upd a k x k = x := if_pos rfl
theorem sw_ne {d : Nat → Int32} {l L z : Nat} {now : Int32} (h1 : z ≠ l + 1) (h3 : z ≠ l + 3) (h100 : z ≠ 100) (h8 : z ≠ L + 8) : swF d l L now z = d z := by
  unfold swF
  split
  · rw [upd_ne h1]
  · rw [upd_ne h8, upd_ne h100, upd_ne h3, upd_ne h1]
theorem tl_ne {d : Nat → Int32} {l L z : Nat} {now : Int32} (h : z < l + 1 ∨ l + 6 < z) (h100 : z ≠ 100) (h8 : z ≠ L + 8) : tlF d l L now z = d z := by
  have hx := @ixF_le now
  unfold tlF
  rw [upd_ne (by omega), upd_ne (by omega), sw_ne (by omega) (by omega) h100 h8]
theorem fl_ne {d : Nat → Int32} {l L z : Nat} (h4 : z ≠ L + 4) (h9 : z ≠ L + 9) (h10 : z ≠ L + 10) : flF d l L z = d z := by
  unfold flF
  rw [upd_ne h4, upd_ne h10, upd_ne h9]
theorem ht_ne {d : Nat → Int32} {L z : Nat} (h : z ≠ L + 5) : htF d L z = d z := by
  unfold htF
  rw [upd_ne h]
theorem lk_ne {d : Nat → Int32} {L z : Nat} (h : z ≠ L + 7) : lkF d L z = d z := by
  unfold lkF
  split
  · rw [upd_ne h]
  · rfl
theorem ltF_ne {d : Nat → Int32} {L f z : Nat} {P : Prop} [Decidable P] (hf : f < 3) (h : z < L + 12 ∨ L + 21 < z) : ltF d L f P z = d z := by
  unfold ltF
  split
  · rw [upd_ne (by omega), upd_ne (by omega), upd_ne (by omega), upd_ne (by omega)]
  · rfl
theorem lat_ne {d : Nat → Int32} {L z : Nat} (h : z < L + 12 ∨ L + 21 < z) : latM d L z = d z := by
  unfold latM lt2M lt1M lt0M
  rw [ltF_ne (by decide) h, ltF_ne (by decide) h, ltF_ne (by decide) h]
theorem dc_ne {d : Nat → Int32} {L z : Nat} (h : z ≠ L + 8) : dcM d L z = d z := upd_ne h
theorem held_ne {d : Nat → Int32} {z : Nat} (h : z ≠ 101) : heldM d z = d z := by
  unfold heldM
  rw [upd_ne h, upd_ne h]
theorem kpA_ne {d : Nat → Int32} {z : Nat} (h : z ≠ 102) : kpA d z = d z := by
  unfold kpA
  split
  · rfl
  · rw [upd_ne h]
theorem kp_ne {d : Nat → Int32} {z : Nat} (h : z < 110 ∨ 269 < z) (h2 : z ≠ 102) : kpF d z = d z := by
  unfold kpF
  rw [upd_ne (by omega), upd_ne (by omega), upd_ne (by omega), upd_ne (by omega), upd_ne (by omega)]
  unfold shs
  rw [if_neg (by omega), kpA_ne h2]
/-- a slot of the model, over its row -/
def gs (d : Nat → Int32) : Nat → Int32 := gsW d (wshF d 0 8 40) (wshF d 1 16 40) (wshF d 2 24 70) (wshF d 3 32 70)
def gsR (d : Nat → Int32) : Int32 := gsRW d (wshF d 0 8 40) (wshF d 1 16 40) (wshF d 2 24 70) (wshF d 3 32 70)
def gsL (d : Nat → Int32) (sz : Int64) : Int64 := gsLW d (wshF d 0 8 40) (wshF d 1 16 40) (wshF d 2 24 70) (wshF d 3 32 70) sz
def gsN (d : Nat → Int32) : Nat → Nat → Int32
  | 0 => d
  | n + 1 => gs (gsN d n)
def gsNL (d : Nat → Int32) (sz : Int64) : Nat → Int64
  | 0 => sz
  | n + 1 => gsL (gsN d n) (gsNL d sz n)
def gsNR (d : Nat → Int32) : Nat → Int32
  | 0 => 0
  | n + 1 => gsNR d n + gsR (gsN d n)
theorem dcl_ne {d : Nat → Int32} {l L z : Nat} (h4 : z < L + 4 ∨ L + 21 < z) : dcM (latM (lk3 d l L) L) L z = d z := by
  rw [dc_ne (by omega), lat_ne (by omega)]
  unfold lk3
  rw [lk_ne (by omega), ht_ne (by omega), fl_ne (by omega) (by omega) (by omega)]
/-- what no slot touches: commands and settings -/
theorem gs_ne {d : Nat → Int32} {z : Nat} (h0 : z ≠ 0) (h : z < 9 ∨ z = 16 ∨ z = 24 ∨ z = 32 ∨ (40 ≤ z ∧ z < 44) ∨ (70 ≤ z ∧ z < 74) ∨ z = 46 ∨ z = 76) : gs d z = d z := by
  unfold gs gsW gE
  rw [upd_ne h0, kp_ne (by omega) (by omega)]
  unfold gD gC
  rw [dc_ne (by omega), lat_ne (by omega)]
  unfold lk3
  rw [lk_ne (by omega), ht_ne (by omega), fl_ne (by omega) (by omega) (by omega)]
  unfold gB gA
  rw [dc_ne (by omega), lat_ne (by omega)]
  unfold lk3
  rw [lk_ne (by omega), ht_ne (by omega), fl_ne (by omega) (by omega) (by omega)]
  unfold tg4 tg3 tg2 tg1
  rw [tl_ne (by omega) (by omega) (by omega), tl_ne (by omega) (by omega) (by omega), tl_ne (by omega) (by omega) (by omega), tl_ne (by omega) (by omega) (by omega), held_ne (by omega)]
theorem gsN_ne {d : Nat → Int32} {z n : Nat} (h0 : z ≠ 0) (h : z < 9 ∨ z = 16 ∨ z = 24 ∨ z = 32 ∨ (40 ≤ z ∧ z < 44) ∨ (70 ≤ z ∧ z < 74) ∨ z = 46 ∨ z = 76) : gsN d n z = d z := by
  induction n with
  | zero => rfl
  | succ n ih => exact (gs_ne h0 h).trans ih
def cmdsM (d : Nat → Int32) : Prop := (d 8 = 0 ∨ d 8 = 1 ∨ d 8 = 2) ∧ (d 16 = 0 ∨ d 16 = 1 ∨ d 16 = 2) ∧ (d 24 = 0 ∨ d 24 = 1 ∨ d 24 = 2) ∧ (d 32 = 0 ∨ d 32 = 1 ∨ d 32 = 2)
theorem cmdsN {d : Nat → Int32} {n : Nat} (h : cmdsM d) : cmdsM (gsN d n) := by
  unfold cmdsM
  rw [gsN_ne (by decide) (by decide), gsN_ne (by decide) (by decide), gsN_ne (by decide) (by decide), gsN_ne (by decide) (by decide)]
  exact h
theorem up_same {I : SI} {c : Nat} {r : Nat → Int32} (h : I c = r) : I = up I c r := by
  rw [← h, up_self]
theorem cp_0 {f g : Nat → Int32} {sp dp : Nat} : va_cpy f g sp dp 0 = g := by
  funext z
  unfold va_cpy
  rw [if_neg (by omega)]
theorem cp_s {f g : Nat → Int32} {sp dp k : Nat} : upd (va_cpy f g sp dp k) (dp + k) (f (sp + k)) = va_cpy f g sp dp (k + 1) := by
  funext z
  unfold upd va_cpy
  by_cases h : z = dp + k
  · rw [if_pos h, if_pos (by omega)]
    congr 1
    omega
  · rw [if_neg h]
    by_cases h2 : dp ≤ z ∧ z < dp + k
    · rw [if_pos h2, if_pos (by omega)]
    · rw [if_neg h2, if_neg (by omega)]
theorem cp_s0 {f g : Nat → Int32} {dp k : Nat} : upd (va_cpy f g 0 dp k) (dp + k) (f k) = va_cpy f g 0 dp (k + 1) := by
  have h := @cp_s f g 0 dp k
  rw [Nat.zero_add] at h
  exact h
theorem cp_s1 {f g : Nat → Int32} {sp k : Nat} : upd (va_cpy f g sp 0 k) k (f (sp + k)) = va_cpy f g sp 0 (k + 1) := by
  have h := @cp_s f g sp 0 k
  rw [Nat.zero_add] at h
  exact h
theorem cp_s00 {f g : Nat → Int32} {k : Nat} : upd (va_cpy f g 0 0 k) k (f k) = va_cpy f g 0 0 (k + 1) := by
  have h := @cp_s f g 0 0 k
  rw [Nat.zero_add] at h
  exact h
theorem cp_sh {f : Nat → Int32} {q k : Nat} : upd (va_cpy f f q 0 k) k (va_cpy f f q 0 k (k + q)) = va_cpy f f q 0 (k + 1) := by
  have h : va_cpy f f q 0 k (k + q) = f (q + k) := by
    unfold va_cpy
    by_cases h : 0 ≤ k + q ∧ k + q < 0 + k
    · rw [if_pos h]
      exfalso
      omega
    · rw [if_neg h, Nat.add_comm]
  rw [h]
  exact cp_s1
theorem nI_s0 {k : Nat} (h : k + 1 < 2 ^ 31) : ¬ nI (k + 1) = 0 := nI_ne (b := 0) h (by decide) (by omega)
