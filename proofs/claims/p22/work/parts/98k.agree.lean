/-! two bridges whose rows agree go on alike: what ifGo tries is what go does -/
def AgX (I' : SI) (X' : Nat) (I : SI) (X : Nat) : Prop := (∀ f, 4 ≤ f → f < 12 → I' X' f = I X f) ∧ (∀ f, f < 7 → I' (X' + 1) f = I (X + 1) f) ∧ (∀ f, f < 7 → I' (X' + 2) f = I (X + 2) f) ∧ (∀ f, f < 4 → I' (X' + 4) f = I (X + 4) f) ∧ I' (X' + 5) 3 = I (X + 5) 3 ∧ ∀ f, f < 3 → I' (X' + 6) f = I (X + 6) f
def AgB (I' : SI) (T : Nat) (I : SI) (S : Nat) : Prop := (∀ f, f < 6 → I' (T + 20) f = I (S + 20) f) ∧ AgX I' (T + 1) I (S + 1) ∧ AgX I' (T + 10) I (S + 10)
theorem leg_ag {a a' : Nat → Int32} {w d : Int32} (h : ∀ f, f < 7 → a' f = a f) : ∀ f, f < 7 → legF a' w d f = legF a w d f := by
  have es : stF a' w d = stF a w d := by
    unfold stF
    rw [h 1 (by decide), h 2 (by decide), h 4 (by decide), h 5 (by decide)]
  obtain ⟨v0, v1, v2, v3, v4, v5, v6⟩ := leg_v (p := a) (w := w) (dead := d) rfl
  obtain ⟨u0, u1, u2, u3, u4, u5, u6⟩ := leg_v (p := a') (w := w) (dead := d) es
  intro f hf
  rcases (show f = 0 ∨ f = 1 ∨ f = 2 ∨ f = 3 ∨ f = 4 ∨ f = 5 ∨ f = 6 by omega) with q | q | q | q | q | q | q
  · rw [q, u0, v0, h 0 (by decide)]
  · rw [q, u1, v1]
  · rw [q, u2, v2, h 2 (by decide)]
  · rw [q, u3, v3, h 1 (by decide), h 3 (by decide)]
  · rw [q, u4, v4, h 4 (by decide)]
  · rw [q, u5, v5, h 5 (by decide)]
  · rw [q, u6, v6, h 6 (by decide)]
theorem fw_ag {b b' p p' q q' n n' : Nat → Int32} (h7 : b' 7 = b 7) (hp : p' 0 = p 0) (hq : q' 0 = q 0) (hn : n' 3 = n 3) : fWishF b' p' q' n' = fWishF b p q n := by
  unfold fWishF
  rw [h7, hp, hq, hn]
theorem sw_ag {q q' n n' : Nat → Int32} (hq : q' 0 = q 0) (hn : n' 3 = n 3) : sWishF q' n' = sWishF q n := by
  unfold sWishF
  rw [hq, hn]
theorem b0_ag {b b' : Nat → Int32} (h : ∀ f, 4 ≤ f → f < 12 → b' f = b f) : ∀ f, 4 ≤ f → f < 12 → b0F b' f = b0F b f := by
  intro f h1 h2
  unfold b0F
  rw [h 7 (by decide) (by decide)]
  split
  · exact h f h1 h2
  · by_cases q : f = 11
    · rw [q, upd_eq, upd_eq, h 11 (by decide) (by decide)]
    · rw [upd_ne q, upd_ne q]
      exact h f h1 h2
theorem drv_ag {p p' q q' : Nat → Int32} (hp : p' 1 = p 1) (hq : q' 1 = q 1) : drvF p' q' = drvF p q := by
  unfold drvF
  rw [hp, hq]
theorem st_ag {a a' : Nat → Int32} {w d : Int32} (h : ∀ f, f < 7 → a' f = a f) : stF a' w d = stF a w d := by
  unfold stF
  rw [h 1 (by decide), h 2 (by decide), h 4 (by decide), h 5 (by decide)]
theorem legs_ag {b b' p p' q q' n n' sv sv' : Nat → Int32} (hb : ∀ f, 4 ≤ f → f < 12 → b' f = b f) (hp : ∀ f, f < 7 → p' f = p f) (hq : ∀ f, f < 7 → q' f = q f) (hn : n' 3 = n 3) (hs : ∀ f, f < 6 → sv' f = sv f) : ∀ f, 4 ≤ f → f < 12 → legsF b' p' q' n' sv' f = legsF b p q n sv f := by
  obtain ⟨v, v11, v8, v9, v10⟩ := @legs_v b p q n sv
  obtain ⟨u, u11, u8, u9, u10⟩ := @legs_v b' p' q' n' sv'
  have e1 : fWishF b' p' q' n' = fWishF b p q n := fw_ag (hb 7 (by decide) (by decide)) (hp 0 (by decide)) (hq 0 (by decide)) hn
  have e2 : sWishF q' n' = sWishF q n := sw_ag (hq 0 (by decide)) hn
  rw [e1, e2, hs 0 (by decide)] at u8 u9 u10
  have ed : drvF (legF p' (fWishF b p q n) (sv 0)) (legF q' (sWishF q n) (sv 0)) = drvF (legF p (fWishF b p q n) (sv 0)) (legF q (sWishF q n) (sv 0)) := drv_ag (leg_ag hp 1 (by decide)) (leg_ag hq 1 (by decide))
  rw [ed] at u9 u10
  rw [st_ag hp, st_ag hq, hp 1 (by decide), hq 1 (by decide), hs 1 (by decide), hb 8 (by decide) (by decide)] at u8
  rw [hb 10 (by decide) (by decide)] at u10
  intro f h1 h2
  rcases (show f < 8 ∨ f = 8 ∨ f = 9 ∨ f = 10 ∨ f = 11 by omega) with q | q | q | q | q
  · rw [u f q, v f q]
    exact hb f h1 h2
  · rw [q, u8, v8]
  · rw [q, u9, v9]
  · rw [q, u10, v10]
  · rw [q, u11, v11]
    exact hb 11 (by decide) (by decide)
theorem cur_ag {b b' dv dv' : Nat → Int32} (h9 : b' 9 = b 9) (h4 : b' 4 = b 4) (hd : ∀ f, f < 4 → dv' f = dv f) : curF b' dv' = curF b dv := by
  unfold curF
  rw [h9, h4, hd 0 (by decide), hd 1 (by decide)]
theorem heat_ag {b b' : Nat → Int32} {c : Int32} (h5 : b' 5 = b 5) (h4 : b' 4 = b 4) : heatF b' c = heatF b c := by
  unfold heatF
  rw [h5, h4]
theorem upd_ag {b b' : Nat → Int32} {k : Nat} {x x' : Int32} (h : ∀ f, 4 ≤ f → f < 12 → b' f = b f) (hx : x' = x) : ∀ f, 4 ≤ f → f < 12 → upd b' k x' f = upd b k x f := by
  intro f h1 h2
  by_cases q : f = k
  · rw [q, upd_eq, upd_eq, hx]
  · rw [upd_ne q, upd_ne q]
    exact h f h1 h2
theorem look_ag {b b' dv dv' : Nat → Int32} (h : ∀ f, 4 ≤ f → f < 12 → b' f = b f) (hd : ∀ f, f < 4 → dv' f = dv f) : ∀ f, 4 ≤ f → f < 12 → lookF b' dv' f = lookF b dv f := by
  intro f h1 h2
  unfold lookF
  rw [h 6 (by decide) (by decide), h 8 (by decide) (by decide), h 4 (by decide) (by decide), hd 2 (by decide), hd 3 (by decide)]
  split
  · exact h f h1 h2
  · split
    · exact upd_ag h rfl f h1 h2
    · split
      · exact upd_ag h rfl f h1 h2
      · exact h f h1 h2
theorem b4_ag {b b' p p' q q' n n' dv dv' sv sv' : Nat → Int32} (hb : ∀ f, 4 ≤ f → f < 12 → b' f = b f) (hp : ∀ f, f < 7 → p' f = p f) (hq : ∀ f, f < 7 → q' f = q f) (hn : n' 3 = n 3) (hd : ∀ f, f < 4 → dv' f = dv f) (hs : ∀ f, f < 6 → sv' f = sv f) : ∀ f, 4 ≤ f → f < 12 → b4F b' p' q' n' dv' sv' f = b4F b p q n dv sv f := by
  have a1 : ∀ f, 4 ≤ f → f < 12 → b1F b' p' q' n' sv' f = b1F b p q n sv f := legs_ag (b0_ag hb) hp hq hn hs
  have a2 : ∀ f, 4 ≤ f → f < 12 → b2F b' p' q' n' dv' sv' f = b2F b p q n dv sv f := upd_ag a1 (cur_ag (a1 9 (by decide) (by decide)) (a1 4 (by decide) (by decide)) hd)
  have a3 : ∀ f, 4 ≤ f → f < 12 → b3F b' p' q' n' dv' sv' f = b3F b p q n dv sv f := by
    refine upd_ag a2 ?_
    rw [hs 5 (by decide)]
    exact heat_ag (a2 5 (by decide) (by decide)) (a2 4 (by decide) (by decide))
  exact look_ag a3 hd
theorem b5_ag {b b' p p' q q' n n' dv dv' sv sv' : Nat → Int32} (hb : ∀ f, 4 ≤ f → f < 12 → b' f = b f) (hp : ∀ f, f < 7 → p' f = p f) (hq : ∀ f, f < 7 → q' f = q f) (hn : n' 3 = n 3) (hd : ∀ f, f < 4 → dv' f = dv f) (hs : ∀ f, f < 6 → sv' f = sv f) : ∀ f, 4 ≤ f → f < 12 → b5F b' p' q' n' dv' sv' f = b5F b p q n dv sv f := by
  have a4 := b4_ag hb hp hq hn hd hs
  intro f h1 h2
  unfold b5F
  rw [a4 8 (by decide) (by decide)]
  split
  · exact a4 f h1 h2
  · exact upd_ag a4 rfl f h1 h2
theorem cu_o {P : Prop} [inst : Decidable P] {a : Nat → Int32} {k z : Nat} {x : Int32} (h : z ≠ k) : cu P a k x z = a z := by
  by_cases p : P
  · rw [cu_p p, upd_ne h]
  · rw [cu_n p]
theorem cu_s {P : Prop} [inst : Decidable P] {a : Nat → Int32} {k : Nat} {x : Int32} : cu P a k x k = if P then x else a k := by
  by_cases p : P
  · rw [cu_p p, upd_eq, if_pos p]
  · rw [cu_n p, if_neg p]
theorem seeT_v {b dv sv t : Nat → Int32} : seeT b dv sv t 0 = (if (b 8 = 0 ∧ ¬ absI (b 4) < sv 2) ∧ ¬ ¬ t 0 = 0 then 1 else t 0) ∧ seeT b dv sv t 1 = (if (¬ b 10 < sv 3 ∧ ¬ dv 0 ≤ absI (b 4)) ∧ ¬ ¬ t 1 = 0 then 1 else t 1) ∧ seeT b dv sv t 2 = (if ¬ b 5 < sv 4 ∧ ¬ ¬ t 2 = 0 then 1 else t 2) := by
  unfold seeT
  refine ⟨?_, ?_, ?_⟩
  · rw [cu_o (by decide), cu_o (by decide), cu_s]
  · rw [cu_o (by decide), cu_s]
    simp only [cu_o (show (1 : Nat) ≠ 0 by decide)]
  · rw [cu_s]
    simp only [cu_o (show (2 : Nat) ≠ 0 by decide), cu_o (show (2 : Nat) ≠ 1 by decide)]
theorem seeR_v {b dv sv t : Nat → Int32} : seeR b dv sv t = 0 + (if (b 8 = 0 ∧ ¬ absI (b 4) < sv 2) ∧ ¬ ¬ t 0 = 0 then 1 else 0) + (if (¬ b 10 < sv 3 ∧ ¬ dv 0 ≤ absI (b 4)) ∧ ¬ ¬ t 1 = 0 then 1 else 0) + (if ¬ b 5 < sv 4 ∧ ¬ ¬ t 2 = 0 then 1 else 0) := by
  unfold seeR
  simp only [cu_o (show (1 : Nat) ≠ 0 by decide), cu_o (show (2 : Nat) ≠ 0 by decide), cu_o (show (2 : Nat) ≠ 1 by decide)]
theorem see_ag {b b' dv dv' sv sv' t t' n n' : Nat → Int32} (hb : ∀ f, 4 ≤ f → f < 12 → b' f = b f) (hd : ∀ f, f < 4 → dv' f = dv f) (hs : ∀ f, f < 6 → sv' f = sv f) (ht : ∀ f, f < 3 → t' f = t f) (hn : n' 3 = n 3) : seeN b' dv' sv' t' n' 3 = seeN b dv sv t n 3 ∧ ∀ f, f < 3 → seeT b' dv' sv' t' f = seeT b dv sv t f := by
  obtain ⟨v0, v1, v2⟩ := @seeT_v b dv sv t
  obtain ⟨u0, u1, u2⟩ := @seeT_v b' dv' sv' t'
  rw [hb 8 (by decide) (by decide), hb 4 (by decide) (by decide), hs 2 (by decide), ht 0 (by decide)] at u0
  rw [hb 10 (by decide) (by decide), hb 4 (by decide) (by decide), hs 3 (by decide), hd 0 (by decide), ht 1 (by decide)] at u1
  rw [hb 5 (by decide) (by decide), hs 4 (by decide), ht 2 (by decide)] at u2
  constructor
  · rw [seeN3, seeN3, seeR_v, seeR_v, hn, hb 8 (by decide) (by decide), hb 4 (by decide) (by decide), hs 2 (by decide), ht 0 (by decide), hb 10 (by decide) (by decide), hs 3 (by decide), hd 0 (by decide), ht 1 (by decide), hb 5 (by decide) (by decide), hs 4 (by decide), ht 2 (by decide)]
  · exact f3 (u0.trans v0.symm) (u1.trans v1.symm) (u2.trans v2.symm)
theorem AgX.step {I' I : SI} {X' X D' D : Nat} (h : AgX I' X' I X) (hs : ∀ f, f < 6 → I' (D' + 1) f = I (D + 1) f) : (∀ f, 4 ≤ f → f < 12 → st0 I' X' D' f = st0 I X D f) ∧ (∀ f, f < 7 → st1 I' X' D' f = st1 I X D f) ∧ (∀ f, f < 7 → st2 I' X' D' f = st2 I X D f) ∧ st5 I' X' D' 3 = st5 I X D 3 ∧ ∀ f, f < 3 → st6 I' X' D' f = st6 I X D f := by
  obtain ⟨hb, hp, hq, hd, hn, ht⟩ := h
  have hb0 := b0_ag hb
  obtain ⟨y1, y2⟩ := see_ag (b4_ag hb hp hq hn hd hs) hd hs ht hn
  refine ⟨b5_ag hb hp hq hn hd hs, ?_, ?_, y1, y2⟩
  · unfold st1 p1F
    rw [fw_ag (hb0 7 (by decide) (by decide)) (hp 0 (by decide)) (hq 0 (by decide)) hn, hs 0 (by decide)]
    exact leg_ag hp
  · unfold st2 q1F
    rw [sw_ag (hq 0 (by decide)) hn, hs 0 (by decide)]
    exact leg_ag hq
theorem AgB.step {I' I : SI} {T S k k' : Nat} (h : AgB I' T I S) : AgB (bsI T I' k') T (bsI S I k) S := by
  obtain ⟨h0, h1, h2⟩ := h
  obtain ⟨a0, a1, a2, a5, a6⟩ := h1.step (D' := T + 19) (D := S + 19) h0
  obtain ⟨c0, c1, c2, c5, c6⟩ := h2.step (D' := T + 19) (D := S + 19) h0
  have d4 := h1.2.2.2.1
  have d13 := h2.2.2.2.1
  have d4 : ∀ f, f < 4 → I' (T + 5) f = I (S + 5) f := d4
  have d13 : ∀ f, f < 4 → I' (T + 14) f = I (S + 14) f := d13
  refine ⟨?_, ⟨?_, ?_, ?_, ?_, ?_, ?_⟩, ⟨?_, ?_, ?_, ?_, ?_, ?_⟩⟩
  · rw [bsI_ne (by omega), bsI_ne (by omega)]
    exact h0
  · rw [bsI_1, bsI_1]
    exact a0
  · show ∀ f, f < 7 → bsI T I' k' (T + 2) f = bsI S I k (S + 2) f
    rw [bsI_2, bsI_2]
    exact a1
  · show ∀ f, f < 7 → bsI T I' k' (T + 3) f = bsI S I k (S + 3) f
    rw [bsI_3, bsI_3]
    exact a2
  · show ∀ f, f < 4 → bsI T I' k' (T + 5) f = bsI S I k (S + 5) f
    rw [bsI_ne (by omega), bsI_ne (by omega)]
    exact d4
  · show bsI T I' k' (T + 6) 3 = bsI S I k (S + 6) 3
    rw [bsI_6, bsI_6]
    exact a5
  · show ∀ f, f < 3 → bsI T I' k' (T + 7) f = bsI S I k (S + 7) f
    rw [bsI_7, bsI_7]
    exact a6
  · rw [bsI_10, bsI_10]
    exact c0
  · show ∀ f, f < 7 → bsI T I' k' (T + 11) f = bsI S I k (S + 11) f
    rw [bsI_11, bsI_11]
    exact c1
  · show ∀ f, f < 7 → bsI T I' k' (T + 12) f = bsI S I k (S + 12) f
    rw [bsI_12, bsI_12]
    exact c2
  · show ∀ f, f < 4 → bsI T I' k' (T + 14) f = bsI S I k (S + 14) f
    rw [bsI_ne (by omega), bsI_ne (by omega)]
    exact d13
  · show bsI T I' k' (T + 15) 3 = bsI S I k (S + 15) 3
    rw [bsI_15, bsI_15]
    exact c5
  · show ∀ f, f < 3 → bsI T I' k' (T + 16) f = bsI S I k (S + 16) f
    rw [bsI_16, bsI_16]
    exact c6
theorem AgB.it {I' I : SI} {L' L : SL} {T S k k' : Nat} (h : AgB I' T I S) (n : Nat) : AgB (brIt T k' n (I', L')).1 T (brIt S k n (I, L)).1 S := by
  induction n with
  | zero => exact h
  | succ n ih => exact AgB.step ih
theorem AgX.trans {a b c : SI} {X Y Z : Nat} (h : AgX a X b Y) (g : AgX b Y c Z) : AgX a X c Z :=
  ⟨fun f h1 h2 => (h.1 f h1 h2).trans (g.1 f h1 h2), fun f h1 => (h.2.1 f h1).trans (g.2.1 f h1), fun f h1 => (h.2.2.1 f h1).trans (g.2.2.1 f h1), fun f h1 => (h.2.2.2.1 f h1).trans (g.2.2.2.1 f h1), h.2.2.2.2.1.trans g.2.2.2.2.1, fun f h1 => (h.2.2.2.2.2 f h1).trans (g.2.2.2.2.2 f h1)⟩
theorem AgB.trans {a b c : SI} {X Y Z : Nat} (h : AgB a X b Y) (g : AgB b Y c Z) : AgB a X c Z := ⟨fun f h1 => (h.1 f h1).trans (g.1 f h1), h.2.1.trans g.2.1, h.2.2.trans g.2.2⟩
theorem AgX.symm {a b : SI} {X Y : Nat} (h : AgX a X b Y) : AgX b Y a X :=
  ⟨fun f h1 h2 => (h.1 f h1 h2).symm, fun f h1 => (h.2.1 f h1).symm, fun f h1 => (h.2.2.1 f h1).symm, fun f h1 => (h.2.2.2.1 f h1).symm, h.2.2.2.2.1.symm, fun f h1 => (h.2.2.2.2.2 f h1).symm⟩
theorem AgB.symm {a b : SI} {X Y : Nat} (h : AgB a X b Y) : AgB b Y a X := ⟨fun f h1 => (h.1 f h1).symm, h.2.1.symm, h.2.2.symm⟩
theorem ag_cp {I I' : SI} {L L' : SL} {T S : Nat} (c : CpB I' L' T I L S) : AgB I' T I S := by
  obtain ⟨c0, c1, c2, c3⟩ := c
  obtain ⟨x1, x2, x3, x4, x5, x6, x7⟩ := c3 1 (Or.inl rfl)
  obtain ⟨y1, y2, y3, y4, y5, y6, y7⟩ := c3 10 (Or.inr rfl)
  exact ⟨c1, ⟨x1, x2, x3, x4, x5, fun f hf => (x6 f hf).1⟩, ⟨y1, y2, y3, y4, y5, fun f hf => (y6 f hf).1⟩⟩
theorem ag_eq {I I' : SI} {S : Nat} (e : ∀ z, S ≤ z → z < S + 26 → I' z = I z) : AgB I' S I S := by
  refine ⟨fun f _ => by rw [e (S + 20) (by omega) (by omega)], ⟨fun f _ _ => by rw [e (S + 1) (by omega) (by omega)], fun f _ => by rw [e (S + 1 + 1) (by omega) (by omega)], fun f _ => by rw [e (S + 1 + 2) (by omega) (by omega)], fun f _ => by rw [e (S + 1 + 4) (by omega) (by omega)], by rw [e (S + 1 + 5) (by omega) (by omega)], fun f _ => by rw [e (S + 1 + 6) (by omega) (by omega)]⟩,
    ⟨fun f _ _ => by rw [e (S + 10) (by omega) (by omega)], fun f _ => by rw [e (S + 10 + 1) (by omega) (by omega)], fun f _ => by rw [e (S + 10 + 2) (by omega) (by omega)], fun f _ => by rw [e (S + 10 + 4) (by omega) (by omega)], by rw [e (S + 10 + 5) (by omega) (by omega)], fun f _ => by rw [e (S + 10 + 6) (by omega) (by omega)]⟩⟩
theorem it_add {B k a : Nat} {s : SI × SL} (b : Nat) : brIt B (k + a) b (brIt B k a s) = brIt B k (a + b) s := by
  induction b with
  | zero => rfl
  | succ b ih =>
    show (bsI B (brIt B (k + a) b (brIt B k a s)).1 (k + a + b), bsL B (brIt B (k + a) b (brIt B k a s)).1 (brIt B (k + a) b (brIt B k a s)).2) = (bsI B (brIt B k (a + b) s).1 (k + (a + b)), bsL B (brIt B k (a + b) s).1 (brIt B k (a + b) s).2)
    rw [ih, Nat.add_assoc]
