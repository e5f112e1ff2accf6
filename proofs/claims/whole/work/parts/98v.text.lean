/-! pure: the text's faults and slots: the class's reading sign by sign against the model's part by part -/
theorem let_eb {x c : Int32} (hx : ¬ 4 ≤ x) : ebF x c = if letF c = -1 then -1 else x + 1 := by
  unfold ebF letF
  rw [if_pos hx]
  by_cases a : c = 111
  · rw [if_pos (Or.inl a), if_pos a, if_neg (by decide)]
  · rw [if_neg a]
    by_cases b : c = 104
    · rw [if_pos (Or.inr (Or.inl b)), if_pos b, if_neg (by decide)]
    · rw [if_neg b]
      by_cases e : c = 108
      · rw [if_pos (Or.inr (Or.inr (Or.inl e))), if_pos e, if_neg (by decide)]
      · rw [if_neg e]
        by_cases f : c = 61
        · rw [if_pos (Or.inr (Or.inr (Or.inr f))), if_pos f, if_neg (by decide)]
        · rw [if_neg f, if_pos rfl, if_neg]
          intro q
          rcases q with q | q | q | q
          · exact a q
          · exact b q
          · exact e q
          · exact f q
theorem fp_end {g : Nat → Int32} {n k i : Nat} (hk : k = n) (hi : i < 100) (h0 : 0 < i) : fpG g n (n - k) k (nI i) = nI k := by
  subst hk
  rw [Nat.sub_self]
  show (if nI i = 0 then -1 else nI k) = nI k
  rw [if_neg (fun q => by have := (nI_z (a := i) (by omega)).mp q; omega)]
theorem fp_s {g : Nat → Int32} {n k : Nat} {x : Int32} (hk : k < n) : fpG g n (n - k) k x = if (g k = 59 ∧ ¬ x ≤ 5) ∧ ¬ (¬ sbL g k 0 1 < 1 ∧ ¬ 500 < sbL g k 0 1) then nI k - (x - 5) else if ebF x (g k) = -1 then nI k else fpG g n (n - (k + 1)) (k + 1) (ebF x (g k)) := by
  rw [show n - k = (n - (k + 1)) + 1 by omega]
  rfl
theorem nIle {a b : Nat} (hab : a ≤ b) (hb : b < 2 ^ 31) : nI a ≤ nI b := nI_le hab hb
theorem fp_let {g : Nat → Int32} {n k i : Nat} (hk : k < n) (hi : i < 4) (h : ¬ letF (g k) = -1) : fpG g n (n - k) k (nI i) = fpG g n (n - (k + 1)) (k + 1) (nI (i + 1)) := by
  have e : ebF (nI i) (g k) = nI (i + 1) := by
    rw [let_eb (show ¬ (4 : Int32) ≤ nI i from nI_ge (b := 4) hi (by decide)), if_neg h]
    exact nI_s i
  rw [fp_s hk, if_neg (fun q => q.1.2 (show nI i ≤ 5 from nI_le (b := 5) (by omega) (by decide))), e, if_neg (nI_ne_m1 (by omega))]
theorem fp_nolet {g : Nat → Int32} {n k i : Nat} (hk : k < n) (hi : i < 4) (h : letF (g k) = -1) : fpG g n (n - k) k (nI i) = nI k := by
  rw [fp_s hk, if_neg (fun q => q.1.2 (show nI i ≤ 5 from nI_le (b := 5) (by omega) (by decide))), let_eb (show ¬ (4 : Int32) ≤ nI i from nI_ge (b := 4) hi (by decide)), if_pos h, if_pos rfl]
theorem let0 : letF 0 = -1 := by decide
theorem let_in {g : Nat → Int32} {n q : Nat} (h : ¬ letF (sgF g n q) = -1) : q < n ∧ sgF g n q = g q := by
  rcases Nat.lt_or_ge q n with z | z
  · exact ⟨z, sgF_lt z⟩
  · rw [sgF_ge z] at h
    exact absurd let0 h
theorem sg_in {g : Nat → Int32} {n q : Nat} {c : Int32} (h : sgF g n q = c) (hc : c ≠ 0) : q < n ∧ g q = c := by
  rcases Nat.lt_or_ge q n with z | z
  · exact ⟨z, by rw [← sgF_lt (g := g) z]; exact h⟩
  · rw [sgF_ge z] at h
    exact absurd h.symm hc
theorem dg_in {g : Nat → Int32} {n q : Nat} (h : dgF (sgF g n q)) : q < n ∧ dgF (g q) := by
  rcases Nat.lt_or_ge q n with z | z
  · exact ⟨z, by rw [← sgF_lt (g := g) z]; exact h⟩
  · rw [sgF_ge z] at h
    exact absurd (by decide) h.1
theorem let_nd {c : Int32} (h : ¬ letF c = -1) : ¬ dgF c ∧ ¬ c = 59 := by
  unfold letF at h
  by_cases a : c = 111
  · subst a; decide
  · rw [if_neg a] at h
    by_cases b : c = 104
    · subst b; decide
    · rw [if_neg b] at h
      by_cases e : c = 108
      · subst e; decide
      · rw [if_neg e] at h
        by_cases f : c = 61
        · subst f; decide
        · rw [if_neg f] at h
          exact absurd rfl h
/-- the letters of a part -/
theorem fp_4 {g : Nat → Int32} {n p : Nat} (h : Rd4 g n p) : p + 4 ≤ n ∧ fpG g n (n - p) p 0 = fpG g n (n - (p + 4)) (p + 4) (nI 4) ∧ (¬ letF (g p) = -1 ∧ ¬ letF (g (p + 1)) = -1 ∧ ¬ letF (g (p + 2)) = -1 ∧ ¬ letF (g (p + 3)) = -1) := by
  obtain ⟨a, b, c, e⟩ := h
  obtain ⟨a1, a2⟩ := let_in a
  obtain ⟨b1, b2⟩ := let_in b
  obtain ⟨c1, c2⟩ := let_in c
  obtain ⟨e1, e2⟩ := let_in e
  rw [a2] at a
  rw [b2] at b
  rw [c2] at c
  rw [e2] at e
  refine ⟨by omega, ?_, a, b, c, e⟩
  have s0 := fp_let (i := 0) a1 (by decide) a
  have s1 := fp_let (i := 1) b1 (by decide) b
  have s2 := fp_let (i := 2) c1 (by decide) c
  have s3 := fp_let (i := 3) e1 (by decide) e
  exact s0.trans (s1.trans (s2.trans s3))
theorem fp_semi {g : Nat → Int32} {n k : Nat} (hk : k < n) (h : g k = 59) : fpG g n (n - k) k (nI 4) = fpG g n (n - (k + 1)) (k + 1) 0 := by
  have e : ebF (nI 4) (g k) = 0 := by rw [h]; decide
  rw [fp_s hk, if_neg (fun q => q.1.2 (by decide)), e, if_neg (by decide)]
theorem fp_star {g : Nat → Int32} {n k : Nat} (hk : k < n) (h : g k = 42) : fpG g n (n - k) k (nI 4) = fpG g n (n - (k + 1)) (k + 1) (nI 5) := by
  have e : ebF (nI 4) (g k) = nI 5 := by rw [h]; decide
  rw [fp_s hk, if_neg (fun q => q.1.2 (by decide)), e, if_neg (by decide)]
theorem fp_bad4 {g : Nat → Int32} {n k : Nat} (hk : k ≤ n) (h : ¬ sgF g n k = 42) (h2 : ¬ sgF g n k = 59) : fpG g n (n - k) k (nI 4) = nI k := by
  rcases Nat.lt_or_ge k n with z | z
  · rw [sgF_lt z] at h h2
    have e : ebF (nI 4) (g k) = -1 := by
      unfold ebF
      rw [if_neg (by decide), if_neg h2, if_pos (by decide), if_neg h]
    rw [fp_s z, if_neg (fun q => h2 q.1.1), e, if_pos rfl]
  · exact fp_end (by omega) (by decide) (by decide)
theorem dg59 {c : Int32} (h : dgF c) : ¬ c = 59 := by
  intro q
  subst q
  exact absurd h (by decide)
theorem fp_dig {g : Nat → Int32} {n k c : Nat} (hk : k < n) (hc : c < 3) (h : dgF (g k)) : fpG g n (n - k) k (nI (5 + c)) = fpG g n (n - (k + 1)) (k + 1) (nI (5 + (c + 1))) := by
  have e : ebF (nI (5 + c)) (g k) = nI (5 + (c + 1)) := by
    unfold ebF
    rw [if_neg (Classical.not_not.mpr (show (4 : Int32) ≤ nI (5 + c) from nI_le (a := 4) (by omega) (by omega))), if_neg (dg59 h), if_neg (show ¬ nI (5 + c) = 4 from nI_ne (b := 4) (by omega) (by decide) (by omega)), if_pos ⟨h, show ¬ (8 : Int32) ≤ nI (5 + c) from nI_ge (b := 8) (by omega) (by decide)⟩]
    exact nI_s (5 + c)
  rw [fp_s hk, if_neg (fun q => dg59 h q.1.1), e, if_neg (nI_ne_m1 (by omega))]
theorem fp_num {g : Nat → Int32} {n k c : Nat} (hk : k < n) (hc : 1 ≤ c) (hc3 : c ≤ 3) (h : g k = 59) (hr : INR (sbL g k 0 1) 1 500) : fpG g n (n - k) k (nI (5 + c)) = fpG g n (n - (k + 1)) (k + 1) 0 := by
  have e : ebF (nI (5 + c)) (g k) = 0 := by
    unfold ebF
    rw [if_neg (Classical.not_not.mpr (show (4 : Int32) ≤ nI (5 + c) from nI_le (a := 4) (by omega) (by omega))), if_pos h, if_neg (show ¬ nI (5 + c) = 5 from nI_ne (b := 5) (by omega) (by decide) (by omega))]
  rw [fp_s hk, if_neg (fun q => q.2 hr), e, if_neg (by decide)]
theorem fp_rng {g : Nat → Int32} {n k c : Nat} (hk : k < n) (hc : 1 ≤ c) (hc3 : c ≤ 3) (hck : c ≤ k) (h : g k = 59) (hr : ¬ INR (sbL g k 0 1) 1 500) : fpG g n (n - k) k (nI (5 + c)) = nI (k - c) := by
  rw [fp_s hk, if_pos ⟨⟨h, show ¬ nI (5 + c) ≤ 5 from nI_ge (a := 5) (by omega) (by omega)⟩, hr⟩]
  rw [show nI (5 + c) - 5 = nI (5 + c - 5) from pk_sub (a := 5 + c) (b := 5) (by omega), show 5 + c - 5 = c by omega]
  exact pk_sub hck
theorem fp_badn {g : Nat → Int32} {n k c : Nat} (hk : k ≤ n) (hc3 : c ≤ 3) (h : c < 3 → ¬ dgF (sgF g n k)) (h2 : ¬ sgF g n k = 59 ∨ c = 0) : fpG g n (n - k) k (nI (5 + c)) = nI k := by
  rcases Nat.lt_or_ge k n with z | z
  · rw [sgF_lt z] at h h2
    have e : ebF (nI (5 + c)) (g k) = -1 := by
      unfold ebF
      rw [if_neg (Classical.not_not.mpr (show (4 : Int32) ≤ nI (5 + c) from nI_le (a := 4) (by omega) (by omega)))]
      by_cases q : g k = 59
      · rw [if_pos q]
        have c0 : c = 0 := h2.resolve_left (fun w => w q)
        subst c0
        rfl
      · rw [if_neg q, if_neg (show ¬ nI (5 + c) = 4 from nI_ne (b := 4) (by omega) (by decide) (by omega)), if_neg]
        intro w
        rcases (show c < 3 ∨ c = 3 by omega) with c3 | c3
        · exact h c3 w.1
        · subst c3
          exact w.2 (by decide)
    rw [fp_s z, e, if_pos rfl, if_neg]
    intro q
    rcases h2 with w | w
    · exact w q.1.1
    · subst w
      exact q.1.2 (by decide)
  · exact fp_end (by omega) (by omega) (by omega)
/-- the digits of a part -/
theorem fp_digs {g : Nat → Int32} {n q : Nat} : ∀ c, c ≤ 3 → (∀ i, i < c → dgF (sgF g n (q + i))) → q ≤ n → q + c ≤ n ∧ fpG g n (n - q) q (nI 5) = fpG g n (n - (q + c)) (q + c) (nI (5 + c)) := by
  intro c
  induction c with
  | zero => exact fun _ _ hq => ⟨hq, rfl⟩
  | succ c ih =>
    intro h3 hd hq
    obtain ⟨a, b⟩ := ih (by omega) (fun i hi => hd i (by omega)) hq
    obtain ⟨c1, c2⟩ := dg_in (hd c (by omega))
    exact ⟨by omega, b.trans (fp_dig c1 (by omega) c2)⟩
theorem sb_s {g : Nat → Int32} {k : Nat} {s w : Int32} : sbL g (k + 1) s w = if ¬ g k < 48 ∧ ¬ 57 < g k then sbL g k (s + w * (g k - 48)) (w * 10) else if w = 1 then 1 else s := rfl
theorem sb_no {g : Nat → Int32} {k : Nat} {s w : Int32} (h : ¬ dgF (g k)) : sbL g (k + 1) s w = if w = 1 then 1 else s := by
  rw [sb_s, if_neg h]
theorem sb_yes {g : Nat → Int32} {k : Nat} {s w : Int32} (h : dgF (g k)) : sbL g (k + 1) s w = sbL g k (s + w * (g k - 48)) (w * 10) := by
  rw [sb_s, if_pos h]
theorem sb_val {g : Nat → Int32} {q c : Nat} (hc : 1 ≤ c) (hc3 : c ≤ 3) (hn : ¬ dgF (g q)) (hd : ∀ i, i < c → dgF (g (q + 1 + i))) : sbL g (q + 1 + c) 0 1 = valD g (q + 1) c := by
  rcases (show c = 1 ∨ c = 2 ∨ c = 3 by omega) with rfl | rfl | rfl
  · have d0 := hd 0 (by decide)
    rw [show q + 1 + 1 = (q + 1) + 1 from rfl, sb_yes d0, sb_no hn, if_neg (by decide)]
    simp only [valD]
    rw [Nat.add_zero]
    generalize g (q + 1) = a
    clear d0 hd hn
    grind
  · have d0 := hd 0 (by decide)
    have d1 := hd 1 (by decide)
    rw [show q + 1 + 2 = (q + 1 + 1) + 1 from rfl, sb_yes d1, sb_yes d0, sb_no hn, if_neg (by decide)]
    simp only [valD]
    rw [Nat.add_zero]
    generalize g (q + 1) = a
    generalize g (q + 1 + 1) = b
    clear d0 d1 hd hn
    grind
  · have d0 := hd 0 (by decide)
    have d1 := hd 1 (by decide)
    have d2 := hd 2 (by decide)
    rw [show q + 1 + 3 = (q + 1 + 2) + 1 from rfl, sb_yes d2, show q + 1 + 2 = (q + 1 + 1) + 1 from rfl, sb_yes d1, sb_yes d0, sb_no hn, if_neg (by decide)]
    simp only [valD]
    rw [Nat.add_zero]
    generalize g (q + 1) = a
    generalize g (q + 1 + 1) = b
    generalize g (q + 1 + 1 + 1) = e
    clear d0 d1 d2 hd hn
    grind
theorem rd_no {g : Nat → Int32} {n p q : Nat} (hp : p < n) (h : RdNo g n p q) : fpG g n (n - p) p 0 = nI q ∧ q ≤ n := by
  rcases h with ⟨k, hk, h1, h2, rfl⟩ | ⟨r4, h⟩
  · have i1 : ∀ i, i < k → p + i < n ∧ ¬ letF (g (p + i)) = -1 := fun i hi => by
      have a := let_in (h1 i hi)
      have b := h1 i hi
      rw [a.2] at b
      exact ⟨a.1, b⟩
    have step : ∀ i, i ≤ k → p + i ≤ n ∧ fpG g n (n - p) p 0 = fpG g n (n - (p + i)) (p + i) (nI i) := by
      intro i
      induction i with
      | zero => exact fun _ => ⟨by omega, rfl⟩
      | succ i ih =>
        intro hi
        obtain ⟨a, b⟩ := ih (by omega)
        obtain ⟨c, e⟩ := i1 i (by omega)
        exact ⟨by omega, b.trans (fp_let c (by omega) e)⟩
    obtain ⟨a, b⟩ := step k (Nat.le_refl k)
    refine ⟨b.trans ?_, a⟩
    rcases Nat.lt_or_ge (p + k) n with z | z
    · rw [sgF_lt z] at h2
      exact fp_nolet z hk h2
    · refine fp_end (by omega) (by omega) ?_
      have : k ≠ 0 := fun e => by subst e; omega
      omega
  · obtain ⟨b1, b2, b3⟩ := fp_4 r4
    rcases h with ⟨x, y, rfl⟩ | ⟨c, ⟨c1, c2, c3, c4⟩, h⟩
    · exact ⟨b2.trans (fp_bad4 b1 x y), b1⟩
    · obtain ⟨s1, s2⟩ := sg_in c1 (by decide)
      obtain ⟨e1, e2⟩ := fp_digs (g := g) (n := n) (q := p + 5) c c2 c3 (by omega)
      have e3 : fpG g n (n - p) p 0 = fpG g n (n - (p + 5 + c)) (p + 5 + c) (nI (5 + c)) := b2.trans ((fp_star s1 s2).trans e2)
      rcases h with ⟨x, rfl⟩ | ⟨x, y, z, rfl⟩
      · exact ⟨e3.trans (fp_badn e1 c2 c4 x), e1⟩
      · obtain ⟨y1, y2⟩ := sg_in y (by decide)
        have v := sb_val (g := g) (q := p + 4) x c2 (by rw [s2]; decide) (fun i hi => (dg_in (c3 i hi)).2)
        refine ⟨e3.trans ?_, by omega⟩
        have := fp_rng (g := g) (n := n) (k := p + 5 + c) y1 x c2 (by omega) y2 (by rw [show p + 5 + c = p + 4 + 1 + c from rfl, v]; exact z)
        rw [show p + 5 + c - c = p + 5 by omega] at this
        exact this
theorem sl_skip {g : Nat → Int32} {a : Nat} : ∀ r, (∀ j, a ≤ j → j < a + r → ¬ g j = 59) → slL g (a + r) = slL g a := by
  intro r
  induction r with
  | zero => exact fun _ => rfl
  | succ r ih =>
    intro h
    show (if g (a + r) = 59 then slL g (a + r) + sbL g (a + r) 0 1 else slL g (a + r)) = slL g a
    rw [if_neg (h _ (by omega) (by omega))]
    exact ih (fun j h1 h2 => h j h1 (by omega))
/-- a part that can be read -/
theorem rd_ok {g : Nat → Int32} {n p p' : Nat} {m : Int32} (hp : p < n) (h : RdOk g n p p' m) : p + 5 ≤ p' ∧ p' ≤ n ∧ fpG g n (n - p) p 0 = fpG g n (n - p') p' 0 ∧ (∃ N, m = nI N ∧ 1 ≤ N ∧ N ≤ 500) ∧ (∀ j, p ≤ j → j < p' - 1 → ¬ g j = 59) ∧ g (p' - 1) = 59 ∧ sbL g (p' - 1) 0 1 = m ∧ (∀ i, i < 4 → ¬ letF (g (p + i)) = -1) := by
  obtain ⟨r4, h⟩ := h
  obtain ⟨b1, b2, l0, l1, l2, l3⟩ := fp_4 r4
  have lets : ∀ i, i < 4 → ¬ letF (g (p + i)) = -1 := f4 l0 l1 l2 l3
  rcases h with ⟨x, rfl, rfl⟩ | ⟨c, ⟨c1, c2, c3, c4⟩, hc1, y, rfl, hr, rfl⟩
  · obtain ⟨x1, x2⟩ := sg_in x (by decide)
    refine ⟨Nat.le_refl _, by omega, b2.trans (fp_semi x1 x2), ⟨1, rfl, by decide, by decide⟩, ?_, x2, ?_, lets⟩
    · intro j h1 h2
      have := (let_nd (lets (j - p) (by omega))).2
      rw [show p + (j - p) = j by omega] at this
      exact this
    · show sbL g (p + 3 + 1) 0 1 = 1
      rw [sb_no (let_nd l3).1, if_pos rfl]
  · obtain ⟨s1, s2⟩ := sg_in c1 (by decide)
    obtain ⟨e1, e2⟩ := fp_digs (g := g) (n := n) (q := p + 5) c c2 c3 (by omega)
    obtain ⟨y1, y2⟩ := sg_in y (by decide)
    have v := sb_val (g := g) (q := p + 4) hc1 c2 (by rw [s2]; decide) (fun i hi => (dg_in (c3 i hi)).2)
    have e3 : fpG g n (n - p) p 0 = fpG g n (n - (p + 5 + c)) (p + 5 + c) (nI (5 + c)) := b2.trans ((fp_star s1 s2).trans e2)
    have e4 := fp_num (g := g) (n := n) (k := p + 5 + c) y1 hc1 c2 y2 (by rw [show p + 5 + c = p + 4 + 1 + c from rfl, v]; exact hr)
    rw [show p + 5 + c + 1 = p + 6 + c by omega] at e4
    obtain ⟨N, n1, n2, n3⟩ := ofR (a := 1) (b := 500) (by decide) (by decide) hr
    refine ⟨by omega, by omega, e3.trans e4, ⟨N, n3, n1, n2⟩, ?_, ?_, ?_, lets⟩
    · intro j h1 h2
      rcases (show j < p + 4 ∨ j = p + 4 ∨ p + 5 ≤ j by omega) with z | z | z
      · have := (let_nd (lets (j - p) (by omega))).2
        rw [show p + (j - p) = j by omega] at this
        exact this
      · rw [z, s2]
        decide
      · have := (dg_in (c3 (j - (p + 5)) (by omega))).2
        rw [show p + 5 + (j - (p + 5)) = j by omega] at this
        exact dg59 this
    · rw [show p + 6 + c - 1 = p + 5 + c by omega]
      exact y2
    · rw [show p + 6 + c - 1 = p + 4 + 1 + c by omega]
      exact v
theorem rd_sl {g : Nat → Int32} {n p p' : Nat} {m : Int32} (hp : p < n) (h : RdOk g n p p' m) : slL g p' = slL g p + m := by
  obtain ⟨a, b, -, -, c, e, f, -⟩ := rd_ok hp h
  have s := sl_skip (g := g) (a := p) (p' - 1 - p) (fun j h1 h2 => c j h1 (by omega))
  rw [show p + (p' - 1 - p) = p' - 1 by omega] at s
  rw [show p' = (p' - 1) + 1 by omega]
  show (if g (p' - 1) = 59 then slL g (p' - 1) + sbL g (p' - 1) 0 1 else slL g (p' - 1)) = _
  rw [if_pos e, s, f]
