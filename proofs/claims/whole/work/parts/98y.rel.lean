/-! the relation of the two objects, over the store; what the calls do to it -/
theorem RB.iter {B : Nat} {I : SI} {L : SL} {d : Nat → Int32} {sz : Int64} {k : Nat} (h : RB B I L d sz k) : ∀ n, k + n < 2 ^ 28 → RB B (brIt B k n (I, L)).1 (brIt B k n (I, L)).2 (gsN d n) (gsNL d sz n) (k + n) ∧ brSum B k n (I, L) = gsNR d n := by
  intro n
  induction n with
  | zero => exact fun _ => ⟨h, rfl⟩
  | succ n ih =>
    intro hn
    obtain ⟨a, b⟩ := ih (by omega)
    obtain ⟨c, e⟩ := a.step (by omega)
    refine ⟨c, ?_⟩
    show brSum B k n (I, L) + stR (brIt B k n (I, L)).1 (B + 1) (B + 19) + stR (brIt B k n (I, L)).1 (B + 10) (B + 19) = gsNR d n + gsR (gsN d n)
    rw [b, ← e, Int32.add_assoc]
theorem gsNX_3 {d : Nat → Int32} {lx : Nat → Int64} {n : Nat} : gsNX d lx n 3 = gsNL d (lx 3) n := by
  induction n with
  | zero => rfl
  | succ n ih =>
    show vp_updL (gsNX d lx n) 3 (gsL (gsN d n) (gsNX d lx n 3)) 3 = gsL (gsN d n) (gsNL d (lx 3) n)
    rw [ih]
    rfl
theorem gsNX_o {d : Nat → Int32} {lx : Nat → Int64} {n f : Nat} (hf : f ≠ 3) : gsNX d lx n f = lx f := by
  induction n with
  | zero => rfl
  | succ n ih =>
    show vp_updL (gsNX d lx n) 3 (gsL (gsN d n) (gsNX d lx n 3)) f = lx f
    unfold vp_updL
    rw [if_neg hf]
    exact ih
/-- a command -/
theorem LegR.cmd {p d : Nat → Int32} {l k : Nat} {c : Int32} (h : LegR p d l k) (hc : c = 0 ∨ c = 1 ∨ c = 2) : LegR (upd p 0 c) (upd d l c) l k := by
  obtain ⟨h0, h1, h3, h4, h5, h6, h7, h8, a, b, ha, hb, hab, hs⟩ := h
  unfold LegR
  rw [upd_eq, upd_eq, upd_ne (show 1 ≠ 0 by decide), upd_ne (show 2 ≠ 0 by decide), upd_ne (show 3 ≠ 0 by decide), upd_ne (show 4 ≠ 0 by decide), upd_ne (show 5 ≠ 0 by decide), upd_ne (show 6 ≠ 0 by decide), upd_ne (show l + 1 ≠ l by omega), upd_ne (show l + 2 ≠ l by omega), upd_ne (show l + 3 ≠ l by omega), upd_ne (show l + 4 ≠ l by omega), upd_ne (show l + 5 ≠ l by omega), upd_ne (show l + 6 ≠ l by omega)]
  exact ⟨rfl, h1, h3, h4, h5, h6, hc, h8, a, b, ha, hb, hab, hs⟩
def lgo (lg : Nat) : Nat := if lg = 0 then 2 else if lg = 1 then 3 else if lg = 2 then 11 else 12
theorem lgc_lgo (lg : Nat) : lgc lg = 1 + lgo lg := by
  unfold lgc lgo
  split
  · rfl
  · split
    · rfl
    · split <;> rfl
theorem RB.cmd {B : Nat} {I : SI} {L : SL} {d : Nat → Int32} {sz : Int64} {k lg : Nat} {c : Int32} (h : RB B I L d sz k) (hlg : lg < 4) (hc : c = 0 ∨ c = 1 ∨ c = 2) : RB B (up I (B + lgo lg) (upd (I (B + lgo lg)) 0 c)) L (upd d (8 + 8 * lg) c) sz k := by
  obtain ⟨a1, a2, a3, ⟨p1, q1, b1, v1, f1⟩, ⟨p2, q2, b2, v2, f2⟩, a6, a7, a8, a9⟩ := h
  have o : lgo lg = 2 ∨ lgo lg = 3 ∨ lgo lg = 11 ∨ lgo lg = 12 := by
    unfold lgo
    split
    · exact Or.inl rfl
    · split
      · exact Or.inr (Or.inl rfl)
      · split
        · exact Or.inr (Or.inr (Or.inl rfl))
        · exact Or.inr (Or.inr (Or.inr rfl))
  have hd : ∀ z, z ≠ 8 + 8 * lg → upd d (8 + 8 * lg) c z = d z := fun z hz => upd_ne hz
  have hI : ∀ z, z ≠ B + lgo lg → up I (B + lgo lg) (upd (I (B + lgo lg)) 0 c) z = I z := fun z hz => up_ne hz
  have leg : ∀ o' l, (o' ≠ lgo lg → ∀ f, f < 7 → l + f ≠ 8 + 8 * lg) → (o' = lgo lg → l = 8 + 8 * lg) → LegR (I (B + o')) d l k → LegR (up I (B + lgo lg) (upd (I (B + lgo lg)) 0 c) (B + o')) (upd d (8 + 8 * lg) c) l k := by
    intro o' l n1 n2 g
    by_cases e : o' = lgo lg
    · subst e
      rw [up_eq, ← n2 rfl]
      exact g.cmd hc
    · rw [hI _ (by omega)]
      exact g.cong (fun _ _ => rfl) (fun f hf => hd _ (n1 e f hf))
  have lo : (lg = 0 ∧ lgo lg = 2) ∨ (lg = 1 ∧ lgo lg = 3) ∨ (lg = 2 ∧ lgo lg = 11) ∨ (lg = 3 ∧ lgo lg = 12) := by
    rcases (show lg = 0 ∨ lg = 1 ∨ lg = 2 ∨ lg = 3 by omega) with rfl | rfl | rfl | rfl
    · exact Or.inl ⟨rfl, rfl⟩
    · exact Or.inr (Or.inl ⟨rfl, rfl⟩)
    · exact Or.inr (Or.inr (Or.inl ⟨rfl, rfl⟩))
    · exact Or.inr (Or.inr (Or.inr ⟨rfl, rfl⟩))
  have sw3 : ∀ o', up I (B + lgo lg) (upd (I (B + lgo lg)) 0 c) (B + o') 3 = I (B + o') 3 := by
    intro o'
    by_cases e : o' = lgo lg
    · subst e
      rw [up_eq, upd_ne (by decide)]
    · rw [hI _ (by omega)]
  refine ⟨?_, ?_, ?_, ⟨?_, ?_, ?_, ?_, ?_⟩, ⟨?_, ?_, ?_, ?_, ?_⟩, ?_, ?_, ?_, a9⟩
  · rw [hI _ (by omega)]
    exact a1
  · rw [hd _ (by omega)]
    exact a2
  · rw [hI _ (by omega)]
    exact a3.cong (fun _ _ => rfl) (fun f hf => hd _ (by omega))
  · exact leg 2 8 (fun e f hf => by omega) (fun e => by omega) p1
  · exact leg 3 16 (fun e f hf => by omega) (fun e => by omega) q1
  · rw [hI _ (by omega)]
    exact b1.cong (fun _ _ _ => rfl) (fun f _ _ => hd _ (by omega))
  · rw [hI _ (by omega)]
    exact v1.cong (fun _ _ => rfl) (fun f hf => hd _ (by omega))
  · rw [hI _ (by omega), hI _ (by omega), hI _ (by omega), hI _ (by omega)]
    exact f1.cong (fun _ _ => ⟨rfl, rfl, rfl⟩) rfl (fun f _ _ => hd _ (by omega))
  · exact leg 11 24 (fun e f hf => by omega) (fun e => by omega) p2
  · exact leg 12 32 (fun e f hf => by omega) (fun e => by omega) q2
  · rw [hI _ (by omega)]
    exact b2.cong (fun _ _ _ => rfl) (fun f _ _ => hd _ (by omega))
  · rw [hI _ (by omega)]
    exact v2.cong (fun _ _ => rfl) (fun f hf => hd _ (by omega))
  · rw [hI _ (by omega), hI _ (by omega), hI _ (by omega), hI _ (by omega)]
    exact f2.cong (fun _ _ => ⟨rfl, rfl, rfl⟩) rfl (fun f _ _ => hd _ (by omega))
  · exact a6.cong (fun c' h1 h4 f _ => by rw [hI _ (by omega)]) (fun y hy => hd _ (by omega))
  · rw [hd _ (by omega), sw3, sw3, sw3, sw3]
    exact a7
  · rw [hd _ (by omega), hI _ (by omega), hI _ (by omega)]
    exact a8
/-- a setting -/
theorem RB.set {B : Nat} {I : SI} {L : SL} {d : Nat → Int32} {sz : Int64} {k q : Nat} {v : Int32} (h : RB B I L d sz k) (hq : q < 6) (h0 : q = 0 → ∃ s, v = nI s ∧ s ≤ 20) (h1 : q = 1 → ∃ s, v = nI s ∧ s ≤ 50) : RB B (up I (B + 20) (upd (I (B + 20)) q v)) L (upd d (1 + q) v) sz k := by
  obtain ⟨a1, a2, a3, a4, a5, a6, a7, a8, a9⟩ := h
  have hd : ∀ z, z ≠ 1 + q → upd d (1 + q) v z = d z := fun z hz => upd_ne hz
  have hI : ∀ z, z ≠ B + 20 → up I (B + 20) (upd (I (B + 20)) q v) z = I z := fun z hz => up_ne hz
  have ld : ∀ X l L', (X = 1 ∨ X = 10) → 8 ≤ l → 8 ≤ L' → LdX I (B + X) d l L' k → LdX (up I (B + 20) (upd (I (B + 20)) q v)) (B + X) (upd d (1 + q) v) l L' k := fun X l L' hX hl hL g =>
    g.cong (fun f _ _ => by rw [hI _ (by omega)]) (fun f _ => by rw [hI _ (by omega)]) (fun f _ => by rw [hI _ (by omega)]) (fun f _ => by rw [hI _ (by omega)]) (by rw [hI _ (by omega)]) (fun f _ => ⟨by rw [hI _ (by omega)], by rw [hI _ (by omega)], by rw [hI _ (by omega)]⟩) (fun z hz => hd _ (by omega))
  refine ⟨?_, ?_, ?_, ld 1 8 40 (by decide) (by decide) (by decide) a4, ld 10 24 70 (by decide) (by decide) (by decide) a5, ?_, ?_, ?_, a9⟩
  · rw [hI _ (by omega)]
    exact a1
  · rw [hd _ (by omega)]
    exact a2
  · rw [up_eq]
    refine ⟨?_, ?_, ?_⟩
    · intro f hf
      by_cases e : f = q
      · subst e
        rw [upd_eq, upd_eq]
      · rw [upd_ne e, hd _ (by omega)]
        exact a3.1 f hf
    · by_cases e : q = 0
      · subst e
        rw [upd_eq]
        exact h0 rfl
      · rw [upd_ne (Ne.symm e)]
        exact a3.2.1
    · by_cases e : q = 1
      · subst e
        rw [upd_eq]
        exact h1 rfl
      · rw [upd_ne (Ne.symm e)]
        exact a3.2.2
  · exact a6.cong (fun c' h1 h4 f _ => by rw [hI _ (by omega)]) (fun y hy => hd _ (by omega))
  · rw [hd _ (by omega), hI _ (by omega), hI _ (by omega), hI _ (by omega), hI _ (by omega)]
    exact a7
  · rw [hd _ (by omega), hI _ (by omega), hI _ (by omega)]
    exact a8
/-- something of one load alone changes -/
theorem RB.ld {B X l L' : Nat} {I I' : SI} {L : SL} {d d' : Nat → Int32} {sz : Int64} {k : Nat} (h : RB B I L d sz k) (hX : (X = 1 ∧ l = 8 ∧ L' = 40) ∨ (X = 10 ∧ l = 24 ∧ L' = 70)) (hI : ∀ z, z < B + X ∨ B + X + 9 ≤ z → I' z = I z) (hd : ∀ z, z < L' ∨ L' + 22 ≤ z → d' z = d z) (hs : I' (B + X + 1) 3 = I (B + X + 1) 3 ∧ I' (B + X + 2) 3 = I (B + X + 2) 3 ∧ I' (B + X) 11 = I (B + X) 11) (hn : LdX I (B + X) d l L' k → LdX I' (B + X) d' l L' k) : RB B I' L d' sz k := by
  obtain ⟨a1, a2, a3, a4, a5, a6, a7, a8, a9⟩ := h
  have ot : ∀ Y l2 L2, (Y = 1 ∧ l2 = 8 ∧ L2 = 40) ∨ (Y = 10 ∧ l2 = 24 ∧ L2 = 70) → Y ≠ X → LdX I (B + Y) d l2 L2 k → LdX I' (B + Y) d' l2 L2 k := fun Y l2 L2 hY hne g =>
    g.cong (fun f _ _ => by rw [hI _ (by omega)]) (fun f _ => by rw [hI _ (by omega)]) (fun f _ => by rw [hI _ (by omega)]) (fun f _ => by rw [hI _ (by omega)]) (by rw [hI _ (by omega)]) (fun f _ => ⟨by rw [hI _ (by omega)], by rw [hI _ (by omega)], by rw [hI _ (by omega)]⟩) (fun z hz => hd _ (by omega))
  refine ⟨?_, ?_, ?_, ?_, ?_, ?_, ?_, ?_, a9⟩
  · rw [hI _ (by omega)]
    exact a1
  · rw [hd _ (by omega)]
    exact a2
  · rw [hI _ (by omega)]
    exact a3.cong (fun _ _ => rfl) (fun f hf => hd _ (by omega))
  · rcases hX with ⟨rfl, rfl, rfl⟩ | ⟨rfl, rfl, rfl⟩
    · exact hn a4
    · exact ot 1 8 40 (by decide) (by decide) a4
  · rcases hX with ⟨rfl, rfl, rfl⟩ | ⟨rfl, rfl, rfl⟩
    · exact ot 10 24 70 (by decide) (by decide) a5
    · exact hn a5
  · exact a6.cong (fun c' h1 h4 f _ => by rw [hI _ (by omega)]) (fun y hy => hd _ (by omega))
  · rcases hX with ⟨rfl, rfl, rfl⟩ | ⟨rfl, rfl, rfl⟩
    · rw [hd _ (by omega), hI (B + 11) (by omega), hI (B + 12) (by omega), show I' (B + 2) 3 = I (B + 2) 3 from hs.1, show I' (B + 3) 3 = I (B + 3) 3 from hs.2.1]
      exact a7
    · rw [hd _ (by omega), hI (B + 2) (by omega), hI (B + 3) (by omega), show I' (B + 11) 3 = I (B + 11) 3 from hs.1, show I' (B + 12) 3 = I (B + 12) 3 from hs.2.1]
      exact a7
  · rcases hX with ⟨rfl, rfl, rfl⟩ | ⟨rfl, rfl, rfl⟩
    · rw [hd _ (by omega), hI (B + 10) (by omega), hs.2.2]
      exact a8
    · rw [hd _ (by omega), hI (B + 1) (by omega), hs.2.2]
      exact a8
/-- a dial of a load -/
theorem RB.setLoad {B X l L' : Nat} {I : SI} {L : SL} {d : Nat → Int32} {sz : Int64} {k q : Nat} {v : Int32} (h : RB B I L d sz k) (hX : (X = 1 ∧ l = 8 ∧ L' = 40) ∨ (X = 10 ∧ l = 24 ∧ L' = 70)) (hq : q < 4) (h0 : q = 0 → ∃ s, v = nI s ∧ 1 ≤ s ∧ s ≤ 1000) (h1 : q = 1 → ∃ s, v = nI s ∧ s ≤ 100) : RB B (up I (B + X + 4) (upd (I (B + X + 4)) q v)) L (upd d (L' + q) v) sz k := by
  have hd : ∀ z, z ≠ L' + q → upd d (L' + q) v z = d z := fun z hz => upd_ne hz
  have hI : ∀ z, z ≠ B + X + 4 → up I (B + X + 4) (upd (I (B + X + 4)) q v) z = I z := fun z hz => up_ne hz
  refine h.ld hX (fun z hz => hI z (by omega)) (fun z hz => hd z (by omega)) ⟨by rw [hI _ (by omega)], by rw [hI _ (by omega)], by rw [hI _ (by omega)]⟩ (fun g => ?_)
  obtain ⟨p, q', b, w, f⟩ := g
  refine ⟨?_, ?_, ?_, ?_, ?_⟩
  · rw [hI _ (by omega)]
    exact p.cong (fun _ _ => rfl) (fun f hf => hd _ (by clear h0 h1; omega))
  · rw [hI _ (by omega)]
    exact q'.cong (fun _ _ => rfl) (fun f hf => hd _ (by clear h0 h1; omega))
  · rw [hI _ (by omega)]
    exact b.cong (fun _ _ _ => rfl) (fun f _ _ => hd _ (by omega))
  · rw [up_eq]
    refine ⟨?_, ?_, ?_⟩
    · intro f hf
      by_cases e : f = q
      · subst e
        rw [upd_eq, upd_eq]
      · rw [upd_ne e, hd _ (by omega)]
        exact w.1 f hf
    · by_cases e : q = 0
      · subst e
        rw [upd_eq]
        exact h0 rfl
      · rw [upd_ne (Ne.symm e)]
        exact w.2.1
    · by_cases e : q = 1
      · subst e
        rw [upd_eq]
        exact h1 rfl
      · rw [upd_ne (Ne.symm e)]
        exact w.2.2
  · rw [hI _ (by omega), hI _ (by omega), hI _ (by omega), hI _ (by omega)]
    exact f.cong (fun _ _ => ⟨rfl, rfl, rfl⟩) rfl (fun f _ _ => hd _ (by omega))
/-- the chopper -/
theorem rb_chop {B X l L' : Nat} {I : SI} {L : SL} {d : Nat → Int32} {sz : Int64} {k : Nat} {on : Int32} (h : RB B I L d sz k) (hX : (X = 1 ∧ l = 8 ∧ L' = 40) ∨ (X = 10 ∧ l = 24 ∧ L' = 70)) (hon : isb on) : RB B (up I (B + X) (chopF (I (B + X)) on)) L (upd (upd d (L' + 6) on) (L' + 7) (if on = 0 then 0 else d (L' + 7))) sz k := by
  have hd : ∀ z, z ≠ L' + 6 → z ≠ L' + 7 → upd (upd d (L' + 6) on) (L' + 7) (if on = 0 then 0 else d (L' + 7)) z = d z := fun z h6 h7 => by rw [upd_ne h7, upd_ne h6]
  have hI : ∀ z, z ≠ B + X → up I (B + X) (chopF (I (B + X)) on) z = I z := fun z hz => up_ne hz
  have hc : ∀ f, f ≠ 6 → f ≠ 7 → chopF (I (B + X)) on f = I (B + X) f := fun f h6 h7 => by
    unfold chopF
    rw [upd_ne h7, upd_ne h6]
  refine h.ld hX (fun z hz => hI z (by omega)) (fun z hz => hd z (by omega) (by omega)) ⟨by rw [hI _ (by omega)], by rw [hI _ (by omega)], by rw [up_eq, hc _ (by decide) (by decide)]⟩ (fun g => ?_)
  obtain ⟨p, q', b, w, f⟩ := g
  refine ⟨?_, ?_, ?_, ?_, ?_⟩
  · rw [hI _ (by omega)]
    exact p.cong (fun _ _ => rfl) (fun f hf => hd _ (by omega) (by omega))
  · rw [hI _ (by omega)]
    exact q'.cong (fun _ _ => rfl) (fun f hf => hd _ (by omega) (by omega))
  · rw [up_eq]
    obtain ⟨b4, b5, b6, b7, b8, b9, b10, i6, i7, bq, c1, c2⟩ := b
    have u6 : chopF (I (B + X)) on 6 = on := by
      unfold chopF
      rw [upd_ne (by decide), upd_eq]
    have u7 : chopF (I (B + X)) on 7 = (if on = 0 then 0 else d (L' + 7)) ∧ isb (chopF (I (B + X)) on 7) := by
      unfold chopF
      rw [upd_eq, ← b7]
      rcases hon with o | o
      · rw [o, if_neg (fun z => z.2 rfl), if_pos rfl]
        exact ⟨rfl, Or.inl rfl⟩
      · rw [o, if_neg (show ¬ (1 : Int32) = 0 by decide)]
        rcases i7 with i | i
        · rw [i, if_neg (fun z => z.1 rfl)]
          exact ⟨rfl, Or.inl rfl⟩
        · rw [i, if_pos ⟨by decide, by decide⟩]
          exact ⟨rfl, Or.inr rfl⟩
    have e6 : upd (upd d (L' + 6) on) (L' + 7) (if on = 0 then 0 else d (L' + 7)) (L' + 6) = on := by rw [upd_ne (by omega), upd_eq]
    have e7 : upd (upd d (L' + 6) on) (L' + 7) (if on = 0 then 0 else d (L' + 7)) (L' + 7) = (if on = 0 then 0 else d (L' + 7)) := upd_eq
    unfold LoR
    rw [u6, u7.1, e6, e7, hc 4 (by decide) (by decide), hc 5 (by decide) (by decide), hc 8 (by decide) (by decide), hc 9 (by decide) (by decide), hc 10 (by decide) (by decide), hd (L' + 4) (by omega) (by omega), hd (L' + 5) (by omega) (by omega), hd (L' + 8) (by omega) (by omega), hd (L' + 9) (by omega) (by omega), hd (L' + 10) (by omega) (by omega)]
    exact ⟨b4, b5, rfl, rfl, b8, b9, b10, hon, by rw [← u7.1]; exact u7.2, bq, c1, c2⟩
  · rw [hI _ (by omega)]
    exact w.cong (fun _ _ => rfl) (fun f hf => hd _ (by omega) (by omega))
  · rw [hI _ (by omega), hI _ (by omega), hI _ (by omega), hI _ (by omega)]
    exact f.cong (fun _ _ => ⟨rfl, rfl, rfl⟩) rfl (fun f _ _ => hd _ (by omega) (by omega))
/-- a fault is cleared -/
theorem FtR.clear {t u w n d : Nat → Int32} {L k f : Nat} (h : FtR t u w n d L k 0) (hk : k < 2 ^ 28) (hf : f < 3) (hl : ¬ t f = 0) : FtR (upd t f 0) u w (upd n 3 (n 3 - 1)) (upd d (L + 12 + 3 * f) (-1)) L k 0 ∧ n 3 - 1 = ltdF (upd d (L + 12 + 3 * f) (-1)) L := by
  have hv : ¬ d (L + 12 + 3 * f) = -1 := (h.lat (by omega) hf).mp hl
  obtain ⟨h1, s, r, R, h2, h3, h4, h5⟩ := h
  have hd : ∀ z, z ≠ L + 12 + 3 * f → upd d (L + 12 + 3 * f) (-1) z = d z := fun z hz => upd_ne hz
  have hn : n 3 - 1 = ltdF (upd d (L + 12 + 3 * f) (-1)) L := by
    have := ltd_up (d := upd d (L + 12 + 3 * f) (-1)) (d' := d) (L := L) hf upd_eq hv (fun g hg hgf => (hd _ (by omega)).symm)
    rw [h1, this]
    exact Int32.add_sub_cancel _ _
  refine ⟨⟨?_, s, r, R, ?_, h3, ?_, ?_⟩, hn⟩
  · rw [upd_eq]
    exact hn
  · rw [hd _ (by omega)]
    exact h2
  · intro g hg
    by_cases e : g = f
    · subst e
      exact Or.inl ⟨upd_eq, upd_eq⟩
    · obtain ⟨y0, y1, y2, y3, y4, y5, y6, y7, y8⟩ := lt_neq hf hg (Ne.symm e) L
      unfold Ft1
      rw [upd_ne e, hd _ y0, hd _ y3, hd _ y6]
      exact h4 g hg
  · intro g g' hg hg' tg tg'
    have e1 : g ≠ f := fun e => by subst e; rw [upd_eq] at tg; exact absurd tg (by decide)
    have e2 : g' ≠ f := fun e => by subst e; rw [upd_eq] at tg'; exact absurd tg' (by decide)
    rw [upd_ne e1] at tg
    rw [upd_ne e2] at tg'
    exact h5 g g' hg hg' tg tg'
theorem RB.clear {B X l L' f : Nat} {I : SI} {L : SL} {d : Nat → Int32} {sz : Int64} {k : Nat} (h : RB B I L d sz k) (hk : k < 2 ^ 28) (hX : (X = 1 ∧ l = 8 ∧ L' = 40) ∨ (X = 10 ∧ l = 24 ∧ L' = 70)) (hf : f < 3) (hl : ¬ I (B + X + 6) f = 0) : RB B (up (up I (B + X + 5) (upd (I (B + X + 5)) 3 (I (B + X + 5) 3 - 1))) (B + X + 6) (upd (I (B + X + 6)) f 0)) L (upd d (L' + 12 + 3 * f) (-1)) sz k ∧ I (B + X + 5) 3 - 1 = ltdF (upd d (L' + 12 + 3 * f) (-1)) L' := by
  have hd : ∀ z, z < L' + 12 ∨ L' + 21 ≤ z → upd d (L' + 12 + 3 * f) (-1) z = d z := fun z hz => upd_ne (by omega)
  have hI : ∀ z, z ≠ B + X + 5 → z ≠ B + X + 6 → up (up I (B + X + 5) (upd (I (B + X + 5)) 3 (I (B + X + 5) 3 - 1))) (B + X + 6) (upd (I (B + X + 6)) f 0) z = I z := fun z h5 h6 => by rw [up_ne h6, up_ne h5]
  have hfx : FtR (I (B + X + 6)) (I (B + X + 7)) (I (B + X + 8)) (I (B + X + 5)) d L' k 0 := by
    rcases hX with ⟨rfl, rfl, rfl⟩ | ⟨rfl, rfl, rfl⟩
    · exact h.2.2.2.1.2.2.2.2
    · exact h.2.2.2.2.1.2.2.2.2
  obtain ⟨c1, c2⟩ := hfx.clear hk hf hl
  refine ⟨h.ld hX (fun z hz => hI z (by omega) (by omega)) (fun z hz => hd z (by omega)) ⟨by rw [hI _ (by omega) (by omega)], by rw [hI _ (by omega) (by omega)], by rw [hI _ (by omega) (by omega)]⟩ (fun g => ?_), c2⟩
  obtain ⟨p, q', b, w, f'⟩ := g
  refine ⟨?_, ?_, ?_, ?_, ?_⟩
  · rw [hI _ (by omega) (by omega)]
    exact p.cong (fun _ _ => rfl) (fun f hf => hd _ (by omega))
  · rw [hI _ (by omega) (by omega)]
    exact q'.cong (fun _ _ => rfl) (fun f hf => hd _ (by omega))
  · rw [hI _ (by omega) (by omega)]
    exact b.cong (fun _ _ _ => rfl) (fun f _ _ => hd _ (by omega))
  · rw [hI _ (by omega) (by omega)]
    exact w.cong (fun _ _ => rfl) (fun f hf => hd _ (by omega))
  · rw [up_eq, hI _ (by omega) (by omega), hI _ (by omega) (by omega), up_ne (by omega), up_eq]
    exact c1
