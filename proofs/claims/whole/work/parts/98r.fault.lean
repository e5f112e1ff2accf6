/-! pure: the latched faults of a load: class's rows against the model's -/
/-- one fault: latched or not, its slot s, its rank r; ranks below R; slots below k, or k with a number below m -/
def Ft1 (t u w d : Nat → Int32) (L k m R : Nat) (s r : Nat → Nat) (f : Nat) : Prop :=
  (t f = 0 ∧ d (L + 12 + 3 * f) = -1) ∨ (t f = 1 ∧ d (L + 12 + 3 * f) = nI (s f) ∧ u f = nI (s f) ∧ w f = d (L + 13 + 3 * f) ∧ d (L + 14 + 3 * f) = nI (r f) ∧ r f < R ∧ (s f < k ∨ (s f = k ∧ f < m)))
def FtR (t u w n d : Nat → Int32) (L k m : Nat) : Prop :=
  n 3 = ltdF d L ∧ ∃ (s r : Nat → Nat) (R : Nat), d (L + 21) = nI R ∧ R ≤ 3 * k + m ∧ (∀ f, f < 3 → Ft1 t u w d L k m R s r f) ∧ ∀ f g, f < 3 → g < 3 → t f = 1 → t g = 1 → (r g < r f ↔ (s g < s f ∨ (s g = s f ∧ g < f)))
theorem f3 {P : Nat → Prop} (a : P 0) (b : P 1) (c : P 2) : ∀ f, f < 3 → P f := by
  intro f hf
  rcases (show f = 0 ∨ f = 1 ∨ f = 2 by omega) with rfl | rfl | rfl
  · exact a
  · exact b
  · exact c
theorem Ft1.isb {t u w d : Nat → Int32} {L k m R : Nat} {s r : Nat → Nat} {f : Nat} (h : Ft1 t u w d L k m R s r f) : isb (t f) := by
  rcases h with h | h
  · exact Or.inl h.1
  · exact Or.inr h.1
theorem Ft1.lat {t u w d : Nat → Int32} {L k m R : Nat} {s r : Nat → Nat} {f : Nat} (h : Ft1 t u w d L k m R s r f) (hk : k < 2 ^ 30) : ¬ t f = 0 ↔ ¬ d (L + 12 + 3 * f) = -1 := by
  rcases h with ⟨a, b⟩ | ⟨a, b, -, -, -, -, c⟩
  · rw [a, b]
    decide
  · rw [a, b]
    constructor
    · intro _
      exact nI_ne_m1 (by omega)
    · intro _
      decide
theorem FtR.cong {t t' u u' w w' n n' d d' : Nat → Int32} {L k m : Nat} (h : FtR t u w n d L k m) (ht : ∀ f, f < 3 → t' f = t f ∧ u' f = u f ∧ w' f = w f) (hn : n' 3 = n 3) (hd : ∀ f, 12 ≤ f → f < 22 → d' (L + f) = d (L + f)) : FtR t' u' w' n' d' L k m := by
  obtain ⟨h1, s, r, R, h2, h3, h4, h5⟩ := h
  have e : ∀ f, f < 3 → d' (L + 12 + 3 * f) = d (L + 12 + 3 * f) ∧ d' (L + 13 + 3 * f) = d (L + 13 + 3 * f) ∧ d' (L + 14 + 3 * f) = d (L + 14 + 3 * f) := by
    intro f hf
    have a := hd (12 + 3 * f) (by omega) (by omega)
    have b := hd (13 + 3 * f) (by omega) (by omega)
    have c := hd (14 + 3 * f) (by omega) (by omega)
    rw [← Nat.add_assoc] at a b c
    exact ⟨a, b, c⟩
  refine ⟨?_, s, r, R, ?_, h3, ?_, ?_⟩
  · rw [hn, h1]
    unfold ltdF
    rw [hd 12 (by decide) (by decide), hd 15 (by decide) (by decide), hd 18 (by decide) (by decide)]
  · rw [hd 21 (by decide) (by decide)]
    exact h2
  · intro f hf
    obtain ⟨a, b, c⟩ := ht f hf
    obtain ⟨x, y, z⟩ := e f hf
    unfold Ft1
    rw [a, b, c, x, y, z]
    exact h4 f hf
  · intro f g hf hg
    rw [(ht f hf).1, (ht g hg).1]
    exact h5 f g hf hg
theorem FtR.isb {t u w n d : Nat → Int32} {L k m : Nat} (h : FtR t u w n d L k m) : ∀ f, f < 3 → isb (t f) := by
  obtain ⟨h1, s, r, R, h2, h3, h4, h5⟩ := h
  exact fun f hf => (h4 f hf).isb
theorem FtR.lat {t u w n d : Nat → Int32} {L k m f : Nat} (h : FtR t u w n d L k m) (hk : k < 2 ^ 30) (hf : f < 3) : ¬ t f = 0 ↔ ¬ d (L + 12 + 3 * f) = -1 := by
  obtain ⟨h1, s, r, R, h2, h3, h4, h5⟩ := h
  exact (h4 f hf).lat hk
theorem FtR.next {t u w n d : Nat → Int32} {L k : Nat} (h : FtR t u w n d L k 3) : FtR t u w n d L (k + 1) 0 := by
  obtain ⟨h1, s, r, R, h2, h3, h4, h5⟩ := h
  refine ⟨h1, s, r, R, h2, by omega, fun f hf => ?_, h5⟩
  rcases h4 f hf with a | ⟨a1, a2, a3, a4, a5, a6, a7⟩
  · exact Or.inl a
  · exact Or.inr ⟨a1, a2, a3, a4, a5, a6, Or.inl (by omega)⟩
/-- the slot and the current of a latched fault -/
theorem FtR.vals {t u w n d : Nat → Int32} {L k m f : Nat} (h : FtR t u w n d L k m) (hf : f < 3) (hl : ¬ t f = 0) : u f = d (L + 12 + 3 * f) ∧ w f = d (L + 13 + 3 * f) := by
  obtain ⟨h1, s, r, R, h2, h3, h4, h5⟩ := h
  rcases h4 f hf with ⟨a, b⟩ | ⟨a, b, c, e, -⟩
  · exact absurd a hl
  · exact ⟨by rw [b, c], e⟩
theorem ite_iff {P Q : Prop} [Decidable P] [Decidable Q] (h : P ↔ Q) (x y : Int32) : (if P then x else y) = if Q then x else y := by
  by_cases q : Q
  · rw [if_pos q, if_pos (h.mpr q)]
  · rw [if_neg q, if_neg (fun p => q (h.mp p))]
/-- the place of a latched fault -/
theorem FtR.plc {t u w n d : Nat → Int32} {L k m f : Nat} (h : FtR t u w n d L k m) (hk : k < 2 ^ 28) (hm : m ≤ 3) (hf : f < 3) (hl : ¬ t f = 0) : plcF t u f = plcM d L f := by
  have h' := h
  obtain ⟨h1, s, r, R, h2, h3, h4, h5⟩ := h
  have key : ∀ g, g < 3 → plc1 t u g f = pl1M d L f g := by
    intro g hg
    unfold plc1 pl1M
    have la := (h4 g hg).lat (by omega)
    rcases h4 f hf with ⟨a, b⟩ | ⟨a1, a2, a3, a4, a5, a6, a7⟩
    · exact absurd a hl
    · rcases h4 g hg with ⟨c, e⟩ | ⟨c1, c2, c3, c4, c5, c6, c7⟩
      · rw [if_neg (fun q => q.1 c), if_neg (fun q => q.1 e)]
      · have o := h5 f g hf hg a1 c1
        have o' : (u g < u f ∨ (u g = u f ∧ g < f)) ↔ d (L + 14 + 3 * g) < d (L + 14 + 3 * f) := by
          rw [a3, c3, a5, c5, nI_lt_iff (by omega) (by omega), nI_lt_iff (by omega) (by omega), nI_eq (by omega) (by omega)]
          exact o.symm
        exact ite_iff (and_congr la o') 1 0
  unfold plcF plcM
  rw [key 0 (by decide), key 1 (by decide), key 2 (by decide)]
theorem nI3_pos {d : Nat → Int32} {L : Nat} : ltdF d L = 0 ∨ ltdF d L = 1 ∨ ltdF d L = 2 ∨ ltdF d L = 3 := by
  unfold ltdF
  by_cases a : d (L + 12) = -1 <;> by_cases b : d (L + 15) = -1 <;> by_cases c : d (L + 18) = -1 <;> simp [a, b, c] <;> decide
theorem lt_neq {f : Nat} (hf : f < 3) {g : Nat} (hg : g < 3) (h : f ≠ g) (L : Nat) : L + 12 + 3 * g ≠ L + 12 + 3 * f ∧ L + 12 + 3 * g ≠ L + 13 + 3 * f ∧ L + 12 + 3 * g ≠ L + 14 + 3 * f ∧ L + 13 + 3 * g ≠ L + 12 + 3 * f ∧ L + 13 + 3 * g ≠ L + 13 + 3 * f ∧ L + 13 + 3 * g ≠ L + 14 + 3 * f ∧ L + 14 + 3 * g ≠ L + 12 + 3 * f ∧ L + 14 + 3 * g ≠ L + 13 + 3 * f ∧ L + 14 + 3 * g ≠ L + 14 + 3 * f := by omega
/-- the count of latched faults goes up by one -/
theorem ltd_up {d d' : Nat → Int32} {L m : Nat} (hm : m < 3) (h : d (L + 12 + 3 * m) = -1) (h' : ¬ d' (L + 12 + 3 * m) = -1) (ho : ∀ g, g < 3 → g ≠ m → d' (L + 12 + 3 * g) = d (L + 12 + 3 * g)) : ltdF d' L = ltdF d L + 1 := by
  unfold ltdF
  rcases (show m = 0 ∨ m = 1 ∨ m = 2 by omega) with rfl | rfl | rfl
  · have o1 : d' (L + 15) = d (L + 15) := ho 1 (by decide) (by decide)
    have o2 : d' (L + 18) = d (L + 18) := ho 2 (by decide) (by decide)
    have h : d (L + 12) = -1 := h
    have h' : ¬ d' (L + 12) = -1 := h'
    rw [o1, o2]
    by_cases b : d (L + 15) = -1 <;> by_cases c : d (L + 18) = -1 <;> simp [h, h', b, c] <;> decide
  · have o1 : d' (L + 12) = d (L + 12) := ho 0 (by decide) (by decide)
    have o2 : d' (L + 18) = d (L + 18) := ho 2 (by decide) (by decide)
    have h : d (L + 15) = -1 := h
    have h' : ¬ d' (L + 15) = -1 := h'
    rw [o1, o2]
    by_cases b : d (L + 12) = -1 <;> by_cases c : d (L + 18) = -1 <;> simp [h, h', b, c] <;> decide
  · have o1 : d' (L + 12) = d (L + 12) := ho 0 (by decide) (by decide)
    have o2 : d' (L + 15) = d (L + 15) := ho 1 (by decide) (by decide)
    have h : d (L + 18) = -1 := h
    have h' : ¬ d' (L + 18) = -1 := h'
    rw [o1, o2]
    by_cases b : d (L + 12) = -1 <;> by_cases c : d (L + 15) = -1 <;> simp [h, h', b, c] <;> decide
/-- one fault is seen: class and model -/
theorem lat1 {t u w n d : Nat → Int32} {L k m : Nat} {slot cur : Int32} {P P' : Prop} [Decidable P] [Decidable P'] (h : FtR t u w n d L k m) (hm : m < 3) (hk : k < 2 ^ 28) (hs : slot = nI k) (hd0 : d 0 = nI k) (hc : cur = d (L + 4)) (hL : 40 ≤ L)
    (hP : P → t m = 0) (hP' : P' → d (L + 12 + 3 * m) = -1) (hPP : t m = 0 → (P ↔ P')) : FtR (cu P t m 1) (cu P u m slot) (cu P w m cur) (cinc P n) (ltF d L m P') L k (m + 1) ∧ (P ↔ P') := by
  obtain ⟨h1, s, r, R, h2, h3, h4, h5⟩ := h
  have hiff : P ↔ P' := by
    constructor
    · intro q
      exact (hPP (hP q)).mp q
    · intro q
      refine (hPP ?_).mpr q
      rcases h4 m hm with ⟨a, -⟩ | ⟨-, b, -, -, -, -, c⟩
      · exact a
      · rw [hP' q] at b
        exact absurd b.symm (nI_ne_m1 (by omega))
  refine ⟨?_, hiff⟩
  by_cases hp : P
  · have hp' := hiff.mp hp
    rw [cu_p hp, cu_p hp, cu_p hp, cinc_p hp, ltF_p hp']
    have t0 := hP hp
    have dm := hP' hp'
    have vm : ∀ x0 x1 x2 x3 : Int32, upd (upd (upd (upd d (L + 12 + 3 * m) x0) (L + 13 + 3 * m) x1) (L + 14 + 3 * m) x2) (L + 21) x3 (L + 12 + 3 * m) = x0 ∧ upd (upd (upd (upd d (L + 12 + 3 * m) x0) (L + 13 + 3 * m) x1) (L + 14 + 3 * m) x2) (L + 21) x3 (L + 13 + 3 * m) = x1 ∧ upd (upd (upd (upd d (L + 12 + 3 * m) x0) (L + 13 + 3 * m) x1) (L + 14 + 3 * m) x2) (L + 21) x3 (L + 14 + 3 * m) = x2 := by
      intro x0 x1 x2 x3
      refine ⟨?_, ?_, ?_⟩
      · rw [upd_ne (by omega), upd_ne (by omega), upd_ne (by omega), upd_eq]
      · rw [upd_ne (by omega), upd_ne (by omega), upd_eq]
      · rw [upd_ne (by omega), upd_eq]
    have vo : ∀ (x0 x1 x2 x3 : Int32) (z : Nat), z ≠ L + 12 + 3 * m → z ≠ L + 13 + 3 * m → z ≠ L + 14 + 3 * m → z ≠ L + 21 → upd (upd (upd (upd d (L + 12 + 3 * m) x0) (L + 13 + 3 * m) x1) (L + 14 + 3 * m) x2) (L + 21) x3 z = d z := by
      intro x0 x1 x2 x3 z z0 z1 z2 z3
      rw [upd_ne z3, upd_ne z2, upd_ne z1, upd_ne z0]
    obtain ⟨w0, w1, w2⟩ := vm (d 0) (d (L + 4)) (d (L + 21)) (d (L + 21) + 1)
    have wo := vo (d 0) (d (L + 4)) (d (L + 21)) (d (L + 21) + 1)
    obtain ⟨s', sm, so⟩ : ∃ s' : Nat → Nat, s' m = k ∧ ∀ f, f ≠ m → s' f = s f := ⟨fun f => if f = m then k else s f, if_pos rfl, fun f hf => if_neg hf⟩
    obtain ⟨r', rm, ro⟩ : ∃ r' : Nat → Nat, r' m = R ∧ ∀ f, f ≠ m → r' f = r f := ⟨fun f => if f = m then R else r f, if_pos rfl, fun f hf => if_neg hf⟩
    refine ⟨?_, s', r', R + 1, ?_, by omega, ?_, ?_⟩
    · rw [upd_eq, h1]
      refine (ltd_up hm dm ?_ ?_).symm
      · rw [w0, hd0]
        exact nI_ne_m1 (by omega)
      · intro g hg hgm
        exact wo _ (by omega) (by omega) (by omega) (by omega)
    · rw [upd_eq, h2]
      exact nI_s R
    · intro f hf
      by_cases hfm : f = m
      · subst hfm
        refine Or.inr ⟨upd_eq, ?_, ?_, ?_, ?_, ?_, ?_⟩
        · rw [w0, hd0, sm]
        · rw [upd_eq, hs, sm]
        · rw [upd_eq, w1, hc]
        · rw [w2, h2, rm]
        · rw [rm]
          omega
        · rw [sm]
          exact Or.inr ⟨rfl, by omega⟩
      · obtain ⟨y0, y1, y2, y3, y4, y5, y6, y7, y8⟩ := lt_neq (f := m) hm hf (Ne.symm hfm) L
        have e0 := wo (L + 12 + 3 * f) y0 y1 y2 (by omega)
        have e1 := wo (L + 13 + 3 * f) y3 y4 y5 (by omega)
        have e2 := wo (L + 14 + 3 * f) y6 y7 y8 (by omega)
        unfold Ft1
        rw [e0, e1, e2, upd_ne hfm, upd_ne hfm, upd_ne hfm, so f hfm, ro f hfm]
        rcases h4 f hf with a | ⟨a1, a2, a3, a4, a5, a6, a7⟩
        · exact Or.inl a
        · exact Or.inr ⟨a1, a2, a3, a4, a5, by omega, by omega⟩
    · intro f g hf hg tf tg
      by_cases hfm : f = m
      · subst hfm
        by_cases hgm : g = f
        · subst hgm
          omega
        · rw [so g hgm, ro g hgm, sm, rm]
          rw [upd_ne hgm] at tg
          rcases h4 g hg with ⟨a, -⟩ | ⟨a1, a2, a3, a4, a5, a6, a7⟩
          · rw [a] at tg
            exact absurd tg (by decide)
          · omega
      · rw [upd_ne hfm] at tf
        rcases h4 f hf with ⟨a, -⟩ | ⟨a1, a2, a3, a4, a5, a6, a7⟩
        · rw [a] at tf
          exact absurd tf (by decide)
        · by_cases hgm : g = m
          · subst hgm
            rw [so f hfm, ro f hfm, sm, rm]
            omega
          · rw [so f hfm, ro f hfm, so g hgm, ro g hgm]
            rw [upd_ne hgm] at tg
            exact h5 f g hf hg tf tg
  · have hp' : ¬ P' := fun q => hp (hiff.mpr q)
    rw [cu_n hp, cu_n hp, cu_n hp, cinc_n hp, ltF_n hp']
    refine ⟨h1, s, r, R, h2, by omega, fun f hf => ?_, h5⟩
    rcases h4 f hf with a | ⟨a1, a2, a3, a4, a5, a6, a7⟩
    · exact Or.inl a
    · exact Or.inr ⟨a1, a2, a3, a4, a5, a6, by omega⟩
/-- all faults of a load are seen -/
theorem lat_step {b dv sv t u w n d : Nat → Int32} {L k : Nat} (h : FtR t u w n d L k 0) (hb : LoR b d L) (hdv : DvR dv d L) (hsv : SvR sv d) (hk : k < 2 ^ 28) (hd0 : d 0 = nI k) (hL : 40 ≤ L) :
    FtR (seeT b dv sv t) (seeU b dv sv t u (nI k)) (seeW b dv sv t w) (seeN b dv sv t n) (latM d L) L k 3 ∧ seeR b dv sv t = latR d L := by
  obtain ⟨h4, h5, h6, h7, h8, h9, h10, i6, i7, hq, c1, c2⟩ := hb
  have g0 : dv 0 = d L := hdv.1 0 (by decide)
  have s2 : sv 2 = d 3 := hsv.1 2 (by decide)
  have s3 : sv 3 = d 4 := hsv.1 3 (by decide)
  have s4 : sv 4 = d 5 := hsv.1 4 (by decide)
  have la0 := h.lat (f := 0) (by omega) (by decide)
  obtain ⟨r0, e0⟩ := lat1 (P := (b 8 = 0 ∧ ¬ absI (b 4) < sv 2) ∧ ¬ ¬ t 0 = 0) (P' := ¬ ¬ d (L + 12) = -1 ∧ (d (L + 8) = 0 ∧ ¬ absM (d (L + 4)) < d 3)) (slot := nI k) (cur := b 4) h (by decide) hk rfl hd0 h4 hL
    (fun q => Classical.not_not.mp q.2) (fun q => Classical.not_not.mp q.1) (fun q => by
      rw [h8, h4, s2]
      have z : d (L + 12) = -1 := Classical.not_not.mp (fun z => la0.mpr z q)
      constructor
      · exact fun x => ⟨fun y => y z, x.1⟩
      · exact fun x => ⟨x.2, fun y => y q⟩)
  have la1 := r0.lat (f := 1) (by omega) (by decide)
  have v : ∀ z, z < L + 12 → ltF d L 0 (¬ ¬ d (L + 12) = -1 ∧ (d (L + 8) = 0 ∧ ¬ absM (d (L + 4)) < d 3)) z = d z := fun z hz => ltF_ne (by decide) (by omega)
  obtain ⟨r1, e1⟩ := lat1 (P := (¬ b 10 < sv 3 ∧ ¬ dv 0 ≤ absI (b 4)) ∧ ¬ ¬ (cu ((b 8 = 0 ∧ ¬ absI (b 4) < sv 2) ∧ ¬ ¬ t 0 = 0) t 0 1) 1 = 0) (P' := ¬ ¬ lt0M d L (L + 15) = -1 ∧ (¬ lt0M d L (L + 10) < lt0M d L 4 ∧ ¬ lt0M d L L ≤ absM (lt0M d L (L + 4)))) (slot := nI k) (cur := b 4) r0 (by decide) hk rfl ((v 0 (by omega)).trans hd0) (h4.trans (v _ (by omega)).symm) hL
    (fun q => Classical.not_not.mp q.2) (fun q => Classical.not_not.mp q.1) (fun q => by
      have hh : (¬ b 10 < sv 3 ∧ ¬ dv 0 ≤ absI (b 4)) ↔ (¬ lt0M d L (L + 10) < lt0M d L 4 ∧ ¬ lt0M d L L ≤ absM (lt0M d L (L + 4))) := by
        rw [show lt0M d L (L + 10) = d (L + 10) from v _ (by omega), show lt0M d L 4 = d 4 from v _ (by omega), show lt0M d L L = d L from v _ (by omega), show lt0M d L (L + 4) = d (L + 4) from v _ (by omega), h10, h4, s3, g0]
        exact Iff.rfl
      have z : lt0M d L (L + 15) = -1 := Classical.not_not.mp (fun z => la1.mpr z q)
      constructor
      · exact fun x => ⟨fun y => y z, hh.mp x.1⟩
      · exact fun x => ⟨hh.mpr x.2, fun y => y q⟩)
  have la2 := r1.lat (f := 2) (by omega) (by decide)
  have v1 : ∀ z, z < L + 12 → lt1M (lt0M d L) L z = d z := fun z hz => (ltF_ne (by decide) (by omega)).trans (v z hz)
  obtain ⟨r2, e2⟩ := lat1 (P := (¬ b 5 < sv 4) ∧ ¬ ¬ (cu ((¬ b 10 < sv 3 ∧ ¬ dv 0 ≤ absI (b 4)) ∧ ¬ ¬ (cu ((b 8 = 0 ∧ ¬ absI (b 4) < sv 2) ∧ ¬ ¬ t 0 = 0) t 0 1) 1 = 0) (cu ((b 8 = 0 ∧ ¬ absI (b 4) < sv 2) ∧ ¬ ¬ t 0 = 0) t 0 1) 1 1) 2 = 0) (P' := ¬ ¬ lt1M (lt0M d L) L (L + 18) = -1 ∧ (¬ lt1M (lt0M d L) L (L + 5) < lt1M (lt0M d L) L 5)) (slot := nI k) (cur := b 4) r1 (by decide) hk rfl ((v1 0 (by omega)).trans hd0) (h4.trans (v1 _ (by omega)).symm) hL
    (fun q => Classical.not_not.mp q.2) (fun q => Classical.not_not.mp q.1) (fun q => by
      rw [show lt1M (lt0M d L) L (L + 5) = d (L + 5) from v1 _ (by omega), show lt1M (lt0M d L) L 5 = d 5 from v1 _ (by omega), h5, s4]
      have z : lt1M (lt0M d L) L (L + 18) = -1 := Classical.not_not.mp (fun z => la2.mpr z q)
      constructor
      · exact fun x => ⟨fun y => y z, x.1⟩
      · exact fun x => ⟨x.2, fun y => y q⟩)
  refine ⟨r2, ?_⟩
  unfold seeR latR i0M i1M i2M
  rw [ite_iff e0 1 0, ite_iff e1 1 0, ite_iff e2 1 0]
/-- the wishes -/
theorem wish0 {b p q n d t u w : Nat → Int32} {l L k N : Nat} (hf : FtR t u w n d L k 0) (h7 : b 7 = d (L + 7)) (i7 : isb (b 7)) (hp : p 0 = d l) (hq : q 0 = d (l + 8)) (hN : N % 2 = 0) : fWishF b p q n = wshF d N l L := by
  unfold fWishF wshF
  rw [hf.1]
  by_cases a : ltdF d L ≤ 0
  · rw [if_pos a, if_neg (Classical.not_not.mpr a)]
    rcases i7 with c | c
    · rw [if_pos c, if_neg (fun z => by rw [← h7, c] at z; exact absurd z.2 (by decide)), hp]
    · rw [if_neg (by rw [c]; decide), if_pos ⟨hN, by rw [← h7]; exact c⟩, hq]
  · rw [if_neg a, if_pos a]
theorem wish1 {q n d t u w : Nat → Int32} {l L k N : Nat} (hf : FtR t u w n d L k 0) (hq : q 0 = d l) (hN : ¬ N % 2 = 0) : sWishF q n = wshF d N l L := by
  unfold sWishF wshF
  rw [hf.1]
  by_cases a : ltdF d L ≤ 0
  · rw [if_pos a, if_neg (Classical.not_not.mpr a), if_neg (fun z => hN z.1), hq]
  · rw [if_neg a, if_pos a]
