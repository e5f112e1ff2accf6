/-! pure: the scope; a slot of a bridge -/
def ScR (z : Nat → Nat → Int32) (d : Nat → Int32) (k : Nat) : Prop := d 102 = nI (Nat.min k 32) ∧ ∀ j, j < Nat.min k 32 → d (110 + 5 * j) = nI (k - 1 - j) ∧ ∀ c, 1 ≤ c → c ≤ 4 → d (110 + 5 * j + c) = z c ((k - 1 - j) % 32)
theorem ScR.cong {z z' : Nat → Nat → Int32} {d d' : Nat → Int32} {k : Nat} (h : ScR z d k) (hz : ∀ c, 1 ≤ c → c ≤ 4 → ∀ f, f < 32 → z' c f = z c f) (hd : ∀ y, y = 102 ∨ (110 ≤ y ∧ y < 270) → d' y = d y) : ScR z' d' k := by
  obtain ⟨h1, h2⟩ := h
  refine ⟨(hd 102 (Or.inl rfl)).trans h1, fun j hj => ?_⟩
  have hj2 : j < 32 := by have := @min_le k; omega
  obtain ⟨a, b⟩ := h2 j hj
  refine ⟨(hd _ (Or.inr ⟨by omega, by omega⟩)).trans a, fun c h1 h4 => ?_⟩
  rw [hz c h1 h4 _ (Nat.mod_lt _ (by decide)), hd _ (Or.inr ⟨by omega, by omega⟩)]
  exact b c h1 h4
theorem kp_v {d : Nat → Int32} : kpF d 102 = (if 32 ≤ d 102 then d 102 else d 102 + 1) ∧ kpF d 110 = d 0 ∧ kpF d 111 = d 44 ∧ kpF d 112 = d 74 ∧ kpF d 113 = d 9 + 3 * d 17 + 9 * d 25 + 27 * d 33 ∧ kpF d 114 = d 47 + 2 * d 77 ∧ ∀ z, 115 ≤ z → z < 270 → kpF d z = d (z - 5) := by
  have sh : ∀ z, z < 115 → shs (kpA d) 4 z = kpA d z := by
    intro z hz
    unfold shs
    rw [if_neg (by omega)]
  have ka : ∀ z, z ≠ 102 → kpA d z = d z := fun z hz => kpA_ne hz
  unfold kpF
  refine ⟨?_, ?_, ?_, ?_, ?_, ?_, ?_⟩
  · rw [upd_ne (by decide), upd_ne (by decide), upd_ne (by decide), upd_ne (by decide), upd_ne (by decide), sh _ (by decide)]
    unfold kpA
    split
    · rfl
    · rw [upd_eq]
  · rw [upd_ne (by decide), upd_ne (by decide), upd_ne (by decide), upd_ne (by decide), upd_eq, sh _ (by decide), ka _ (by decide)]
  · rw [upd_ne (by decide), upd_ne (by decide), upd_ne (by decide), upd_eq, sh _ (by decide), ka _ (by decide)]
  · rw [upd_ne (by decide), upd_ne (by decide), upd_eq, sh _ (by decide), ka _ (by decide)]
  · rw [upd_ne (by decide), upd_eq, sh _ (by decide), sh _ (by decide), sh _ (by decide), sh _ (by decide), ka _ (by decide), ka _ (by decide), ka _ (by decide), ka _ (by decide)]
  · rw [upd_eq, sh _ (by decide), sh _ (by decide), ka _ (by decide), ka _ (by decide)]
  · intro z h1 h2
    rw [upd_ne (by omega), upd_ne (by omega), upd_ne (by omega), upd_ne (by omega), upd_ne (by omega)]
    unfold shs
    rw [if_pos (by omega), ka _ (by omega)]
theorem min_s {k : Nat} (h : k < 32) : Nat.min k 32 = k := Nat.min_eq_left (by omega)
theorem min_g {k : Nat} (h : 32 ≤ k) : Nat.min k 32 = 32 := Nat.min_eq_right h
theorem sc_step {z z' : Nat → Nat → Int32} {d : Nat → Int32} {k : Nat} (h : ScR z d k) (hk : k < 2 ^ 28) (hd0 : d 0 = nI k) (v1 : z' 1 = upd (z 1) (k % 32) (d 44)) (v2 : z' 2 = upd (z 2) (k % 32) (d 74)) (v3 : z' 3 = upd (z 3) (k % 32) (d 9 + 3 * d 17 + 9 * d 25 + 27 * d 33)) (v4 : z' 4 = upd (z 4) (k % 32) (d 47 + 2 * d 77)) : ScR z' (kpF d) (k + 1) := by
  obtain ⟨h1, h2⟩ := h
  obtain ⟨k102, k110, k111, k112, k113, k114, ko⟩ := @kp_v d
  have hml := @min_le k
  have hml1 := @min_le (k + 1)
  refine ⟨?_, ?_⟩
  · rw [k102, h1]
    by_cases q : k < 32
    · rw [min_s q, if_neg (show ¬ (32 : Int32) ≤ nI k from nI_ge (a := k) (b := 32) q (by decide)), nI_s]
      by_cases q2 : k + 1 < 32
      · rw [min_s q2]
      · rw [min_g (by omega), show k + 1 = 32 by omega]
    · rw [min_g (by omega), if_pos (by decide), min_g (by omega)]
  · intro j hj
    have ez : ∀ c, 1 ≤ c → c ≤ 4 → ∃ x, z' c = upd (z c) (k % 32) x := by
      intro c a b
      rcases (show c = 1 ∨ c = 2 ∨ c = 3 ∨ c = 4 by omega) with rfl | rfl | rfl | rfl
      · exact ⟨_, v1⟩
      · exact ⟨_, v2⟩
      · exact ⟨_, v3⟩
      · exact ⟨_, v4⟩
    rcases j with _ | j
    · refine ⟨?_, ?_⟩
      · rw [show 110 + 5 * 0 = 110 from rfl, k110, hd0]
        rfl
      · intro c a b
        rw [show k + 1 - 1 - 0 = k by omega]
        rcases (show c = 1 ∨ c = 2 ∨ c = 3 ∨ c = 4 by omega) with rfl | rfl | rfl | rfl
        · rw [v1, upd_eq]
          exact k111
        · rw [v2, upd_eq]
          exact k112
        · rw [v3, upd_eq]
          exact k113
        · rw [v4, upd_eq]
          exact k114
    · have hj1 : j < Nat.min k 32 := by
        by_cases q : k < 32
        · rw [min_s q]
          omega
        · rw [min_g (by omega)]
          omega
      obtain ⟨a, b⟩ := h2 j hj1
      refine ⟨?_, ?_⟩
      · rw [ko _ (by omega) (by omega), show 110 + 5 * (j + 1) - 5 = 110 + 5 * j by omega, a, show k + 1 - 1 - (j + 1) = k - 1 - j by omega]
      · intro c c1 c4
        obtain ⟨x, hx⟩ := ez c c1 c4
        rw [ko _ (by omega) (by omega), show 110 + 5 * (j + 1) + c - 5 = 110 + 5 * j + c by omega, b c c1 c4, show k + 1 - 1 - (j + 1) = k - 1 - j by omega, hx, upd_ne (by omega)]
/-- a load of the store against the model's row -/
def LdX (I : SI) (X : Nat) (d : Nat → Int32) (l L k : Nat) : Prop := LegR (I (X + 1)) d l k ∧ LegR (I (X + 2)) d (l + 8) k ∧ LoR (I X) d L ∧ DvR (I (X + 4)) d L ∧ FtR (I (X + 6)) (I (X + 7)) (I (X + 8)) (I (X + 5)) d L k 0
/-- a bridge of the store against the model's row and its sum of sizes, behind k slots -/
def RB (B : Nat) (I : SI) (L : SL) (d : Nat → Int32) (sz : Int64) (k : Nat) : Prop :=
  I B 4 = nI k ∧ d 0 = nI k ∧ SvR (I (B + 20)) d ∧ LdX I (B + 1) d 8 40 k ∧ LdX I (B + 10) d 24 70 k ∧ ScR (fun c => I (B + 21 + c)) d k ∧ d 100 = I (B + 2) 3 + I (B + 3) 3 + (I (B + 11) 3 + I (B + 12) 3) ∧ d 101 = I (B + 1) 11 + I (B + 10) 11 ∧ sz = L (B + 1) 12 + L (B + 10) 12
theorem LdX.cong {I I' : SI} {X X' : Nat} {d d' : Nat → Int32} {l L k : Nat} (h : LdX I X d l L k) (h0 : ∀ f, 4 ≤ f → f < 12 → I' X' f = I X f) (h1 : ∀ f, f < 7 → I' (X' + 1) f = I (X + 1) f) (h2 : ∀ f, f < 7 → I' (X' + 2) f = I (X + 2) f) (h4 : ∀ f, f < 4 → I' (X' + 4) f = I (X + 4) f) (h5 : I' (X' + 5) 3 = I (X + 5) 3)
    (h6 : ∀ f, f < 3 → I' (X' + 6) f = I (X + 6) f ∧ I' (X' + 7) f = I (X + 7) f ∧ I' (X' + 8) f = I (X + 8) f) (hd : ∀ z, (l ≤ z ∧ z < l + 16) ∨ (L ≤ z ∧ z < L + 22) → d' z = d z) : LdX I' X' d' l L k :=
  ⟨h.1.cong h1 (fun f hf => hd _ (Or.inl ⟨by omega, by omega⟩)), h.2.1.cong h2 (fun f hf => hd _ (Or.inl ⟨by omega, by omega⟩)), h.2.2.1.cong (fun f a b => h0 f a (by omega)) (fun f a b => hd _ (Or.inr ⟨by omega, by omega⟩)), h.2.2.2.1.cong h4 (fun f hf => hd _ (Or.inr ⟨by omega, by omega⟩)), h.2.2.2.2.cong h6 h5 (fun f a b => hd _ (Or.inr ⟨by omega, by omega⟩))⟩
theorem RB.cong {B : Nat} {I I' : SI} {L L' : SL} {d d' : Nat → Int32} {sz : Int64} {k : Nat} (h : RB B I L d sz k) (hI : ∀ z, B ≤ z → z < B + 26 → I' z = I z) (hL : ∀ z, B ≤ z → z < B + 26 → L' z = L z) (hd : ∀ z, z < 270 → d' z = d z) : RB B I' L' d' sz k := by
  obtain ⟨a1, a2, a3, a4, a5, a6, a7, a8, a9⟩ := h
  refine ⟨?_, ?_, ?_, ?_, ?_, ?_, ?_, ?_, ?_⟩
  · rw [hI _ (by omega) (by omega)]
    exact a1
  · rw [hd _ (by omega)]
    exact a2
  · exact a3.cong (fun f _ => by rw [hI _ (by omega) (by omega)]) (fun f hf => hd _ (by omega))
  · exact a4.cong (fun f _ _ => by rw [hI _ (by omega) (by omega)]) (fun f _ => by rw [hI _ (by omega) (by omega)]) (fun f _ => by rw [hI _ (by omega) (by omega)]) (fun f _ => by rw [hI _ (by omega) (by omega)]) (by rw [hI _ (by omega) (by omega)]) (fun f _ => ⟨by rw [hI _ (by omega) (by omega)], by rw [hI _ (by omega) (by omega)], by rw [hI _ (by omega) (by omega)]⟩) (fun z hz => hd _ (by omega))
  · exact a5.cong (fun f _ _ => by rw [hI _ (by omega) (by omega)]) (fun f _ => by rw [hI _ (by omega) (by omega)]) (fun f _ => by rw [hI _ (by omega) (by omega)]) (fun f _ => by rw [hI _ (by omega) (by omega)]) (by rw [hI _ (by omega) (by omega)]) (fun f _ => ⟨by rw [hI _ (by omega) (by omega)], by rw [hI _ (by omega) (by omega)], by rw [hI _ (by omega) (by omega)]⟩) (fun z hz => hd _ (by omega))
  · exact a6.cong (fun c c1 c4 f _ => by rw [hI _ (by omega) (by omega)]) (fun y hy => hd _ (by omega))
  · rw [hd _ (by omega), hI _ (by omega) (by omega), hI _ (by omega) (by omega), hI _ (by omega) (by omega), hI _ (by omega) (by omega)]
    exact a7
  · rw [hd _ (by omega), hI _ (by omega) (by omega), hI _ (by omega) (by omega)]
    exact a8
  · rw [hL _ (by omega) (by omega), hL _ (by omega) (by omega)]
    exact a9
/-- what was copied is the same bridge -/
theorem RB.copy {T S : Nat} {I I' : SI} {L L' : SL} {d : Nat → Int32} {sz : Int64} {k : Nat} (h : RB S I L d sz k) (c : CpB I' L' T I L S) : RB T I' L' d sz k := by
  obtain ⟨a1, a2, a3, a4, a5, a6, a7, a8, a9⟩ := h
  obtain ⟨c1, c2, c3, c4⟩ := c
  obtain ⟨x0, x1, x2, x3, x4, x5, x6⟩ := c4 1 (Or.inl rfl)
  obtain ⟨y0, y1, y2, y3, y4, y5, y6⟩ := c4 10 (Or.inr rfl)
  refine ⟨c1.trans a1, a2, a3.cong c2 (fun f _ => rfl), a4.cong x0 x1 x2 x3 x4 x5 (fun _ _ => rfl), a5.cong y0 y1 y2 y3 y4 y5 (fun _ _ => rfl), a6.cong (fun c' h1 h4 f hf => by have := c3 (21 + c') (by omega) (by omega) f hf; rw [← Nat.add_assoc, ← Nat.add_assoc] at this; exact this) (fun _ _ => rfl), ?_, ?_, ?_⟩
  · rw [a7, show I' (T + 2) 3 = I (S + 2) 3 from x1 3 (by decide), show I' (T + 3) 3 = I (S + 3) 3 from x2 3 (by decide), show I' (T + 11) 3 = I (S + 11) 3 from y1 3 (by decide), show I' (T + 12) 3 = I (S + 12) 3 from y2 3 (by decide)]
  · rw [a8, x0 11 (by decide) (by decide), y0 11 (by decide) (by decide)]
  · rw [a9, x6, y6]
theorem RB.isb {B : Nat} {I : SI} {L : SL} {d : Nat → Int32} {sz : Int64} {k : Nat} (h : RB B I L d sz k) : IsbB I B := by
  obtain ⟨a1, a2, a3, a4, a5, a6, a7, a8, a9⟩ := h
  intro X hX
  rcases hX with rfl | rfl
  · exact ⟨a4.2.2.1.2.2.2.2.2.2.2.1, a4.2.2.1.2.2.2.2.2.2.2.2.1, a4.2.2.2.2.isb⟩
  · exact ⟨a5.2.2.1.2.2.2.2.2.2.2.1, a5.2.2.1.2.2.2.2.2.2.2.2.1, a5.2.2.2.2.isb⟩
theorem RB.cmds {B : Nat} {I : SI} {L : SL} {d : Nat → Int32} {sz : Int64} {k : Nat} (h : RB B I L d sz k) : cmdsM d := by
  obtain ⟨a1, a2, a3, a4, a5, a6, a7, a8, a9⟩ := h
  have q : ∀ {p : Nat → Int32} {l : Nat}, LegR p d l k → d l = 0 ∨ d l = 1 ∨ d l = 2 := fun g => by rw [← g.1]; exact g.2.2.2.2.2.2.1
  exact ⟨q a4.1, q a4.2.1, q a5.1, q a5.2.1⟩
theorem i64_ac (a b x y : Int64) : a + b + x + y = a + x + (b + y) := by ac_rfl
theorem i32_ac (a b x y : Int32) : a + b + x + y = a + x + (b + y) := by ac_rfl
set_option maxHeartbeats 4000000 in
/-- A SLOT: class and model -/
theorem RB.step {B : Nat} {I : SI} {L : SL} {d : Nat → Int32} {sz : Int64} {k : Nat} (h : RB B I L d sz k) (hk : k < 2 ^ 28) : RB B (bsI B I k) (bsL B I L) (gs d) (gsL d sz) (k + 1) ∧ stR I (B + 1) (B + 19) + stR I (B + 10) (B + 19) = gsR d := by
  obtain ⟨a1, a2, a3, ⟨p1, q1, b1, v1, f1⟩, ⟨p2, q2, b2, v2, f2⟩, a6, a7, a8, a9⟩ := h
  -- load 0
  have hA := load_step (N := 0) (d1 := heldM d) (e5 := tg4 d (wshF d 0 8 40) (wshF d 1 16 40) (wshF d 2 24 70) (wshF d 3 32 70)) (Or.inl ⟨rfl, rfl⟩) rfl p1 q1 b1 v1 a3 f1 hk a2 (fun z hz => held_ne (by unfold InLd at hz; omega)) (fun z hz => by
    unfold InLd at hz
    unfold tg4 tg3
    rw [tl_ne (by omega) (by omega) (by omega), tl_ne (by omega) (by omega) (by omega)]
    rfl)
  have hB := load_step (N := 2) (d1 := tg2 d (wshF d 0 8 40) (wshF d 1 16 40)) (e5 := gB d (wshF d 0 8 40) (wshF d 1 16 40) (wshF d 2 24 70) (wshF d 3 32 70)) (Or.inr ⟨rfl, rfl⟩) rfl p2 q2 b2 v2 a3 f2 hk a2 (fun z hz => by
    unfold InLd at hz
    unfold tg2 tg1
    rw [tl_ne (by omega) (by omega) (by omega), tl_ne (by omega) (by omega) (by omega), held_ne (by omega)]) (fun z hz => by
    unfold InLd at hz
    unfold gB gA
    rw [dcl_ne (by omega)]
    rfl)
  obtain ⟨A1, A2, A3, A4, A5, A6, A7, A8⟩ := hA
  obtain ⟨B1, B2, B3, B4, B5, B6, B7, B8⟩ := hB
  have eA : dcM (latM (lk3 (tg4 d (wshF d 0 8 40) (wshF d 1 16 40) (wshF d 2 24 70) (wshF d 3 32 70)) 8 40) 40) 40 = gB d (wshF d 0 8 40) (wshF d 1 16 40) (wshF d 2 24 70) (wshF d 3 32 70) := rfl
  have eB : dcM (latM (lk3 (gB d (wshF d 0 8 40) (wshF d 1 16 40) (wshF d 2 24 70) (wshF d 3 32 70)) 24 70) 70) 70 = gD d (wshF d 0 8 40) (wshF d 1 16 40) (wshF d 2 24 70) (wshF d 3 32 70) := rfl
  rw [eA] at A1 A2 A3 A4
  rw [eB] at B1 B2 B3 B4
  -- what stays from gB to gD, from gD to the end
  have gBD : ∀ z, z < 74 ∨ 91 < z → gD d (wshF d 0 8 40) (wshF d 1 16 40) (wshF d 2 24 70) (wshF d 3 32 70) z = gB d (wshF d 0 8 40) (wshF d 1 16 40) (wshF d 2 24 70) (wshF d 3 32 70) z := fun z hz => by
    unfold gD gC
    exact dcl_ne (by omega)
  have gTB : ∀ z, z < 44 ∨ 61 < z → gB d (wshF d 0 8 40) (wshF d 1 16 40) (wshF d 2 24 70) (wshF d 3 32 70) z = tg4 d (wshF d 0 8 40) (wshF d 1 16 40) (wshF d 2 24 70) (wshF d 3 32 70) z := fun z hz => by
    unfold gB gA
    exact dcl_ne (by omega)
  have gHT : ∀ z, z < 9 ∨ (38 < z ∧ z ≠ 48 ∧ z ≠ 78 ∧ z ≠ 100 ∧ z ≠ 101) → tg4 d (wshF d 0 8 40) (wshF d 1 16 40) (wshF d 2 24 70) (wshF d 3 32 70) z = d z := fun z hz => by
    unfold tg4 tg3 tg2 tg1
    rw [tl_ne (by omega) (by omega) (by omega), tl_ne (by omega) (by omega) (by omega), tl_ne (by omega) (by omega) (by omega), tl_ne (by omega) (by omega) (by omega), held_ne (by omega)]
  have gE' : ∀ z, z ≠ 0 → z ≠ 102 → (z < 110 ∨ 269 < z) → gs d z = gD d (wshF d 0 8 40) (wshF d 1 16 40) (wshF d 2 24 70) (wshF d 3 32 70) z := fun z h0 h2 h3 => by
    unfold gs gsW gE
    rw [upd_ne h0, kp_ne h3 h2]
  have gE2 : ∀ z, z ≠ 0 → gs d z = kpF (gD d (wshF d 0 8 40) (wshF d 1 16 40) (wshF d 2 24 70) (wshF d 3 32 70)) z := fun z h0 => by
    unfold gs gsW gE
    rw [upd_ne h0]
  have g0 : gD d (wshF d 0 8 40) (wshF d 1 16 40) (wshF d 2 24 70) (wshF d 3 32 70) 0 = nI k := (gBD 0 (by decide)).trans ((gTB 0 (by decide)).trans ((gHT 0 (by decide)).trans a2))
  have L0 : LdX (bsI B I k) (B + 1) (gs d) 8 40 (k + 1) := by
    refine ⟨?_, ?_, ?_, ?_, ?_⟩
    · rw [show B + 1 + 1 = B + 2 from rfl, bsI_2]
      exact A1.cong (fun _ _ => rfl) (fun f hf => (gE' _ (by omega) (by omega) (by omega)).trans (gBD _ (by omega)))
    · rw [show B + 1 + 2 = B + 3 from rfl, bsI_3]
      exact A2.cong (fun _ _ => rfl) (fun f hf => (gE' _ (by omega) (by omega) (by omega)).trans (gBD _ (by omega)))
    · rw [bsI_1]
      exact A3.cong (fun _ _ _ => rfl) (fun f h1 h2 => (gE' _ (by omega) (by omega) (by omega)).trans (gBD _ (by omega)))
    · rw [show B + 1 + 4 = B + 5 from rfl, bsI_ne (by omega)]
      exact v1.cong (fun _ _ => rfl) (fun f hf => gs_ne (by omega) (by omega))
    · rw [show B + 1 + 6 = B + 7 from rfl, show B + 1 + 7 = B + 8 from rfl, show B + 1 + 8 = B + 9 from rfl, show B + 1 + 5 = B + 6 from rfl, bsI_7, bsI_8, bsI_9, bsI_6]
      exact A4.cong (fun _ _ => ⟨rfl, rfl, rfl⟩) rfl (fun f h1 h2 => (gE' _ (by omega) (by omega) (by omega)).trans (gBD _ (by omega)))
  have L1 : LdX (bsI B I k) (B + 10) (gs d) 24 70 (k + 1) := by
    refine ⟨?_, ?_, ?_, ?_, ?_⟩
    · rw [show B + 10 + 1 = B + 11 from rfl, bsI_11]
      exact B1.cong (fun _ _ => rfl) (fun f hf => gE' _ (by omega) (by omega) (by omega))
    · rw [show B + 10 + 2 = B + 12 from rfl, bsI_12]
      exact B2.cong (fun _ _ => rfl) (fun f hf => gE' _ (by omega) (by omega) (by omega))
    · rw [bsI_10]
      exact B3.cong (fun _ _ _ => rfl) (fun f h1 h2 => gE' _ (by omega) (by omega) (by omega))
    · rw [show B + 10 + 4 = B + 14 from rfl, bsI_ne (by omega)]
      exact v2.cong (fun _ _ => rfl) (fun f hf => gs_ne (by omega) (by omega))
    · rw [show B + 10 + 6 = B + 16 from rfl, show B + 10 + 7 = B + 17 from rfl, show B + 10 + 8 = B + 18 from rfl, show B + 10 + 5 = B + 15 from rfl, bsI_16, bsI_17, bsI_18, bsI_15]
      exact B4.cong (fun _ _ => ⟨rfl, rfl, rfl⟩) rfl (fun f h1 h2 => gE' _ (by omega) (by omega) (by omega))
  have e1 : st1 I (B + 1) (B + 19) 3 = p1F (I (B + 1)) (I (B + 2)) (I (B + 3)) (I (B + 6)) (I (B + 20)) 3 := rfl
  refine ⟨⟨?_, ?_, ?_, L0, L1, ?_, ?_, ?_, ?_⟩, ?_⟩
  · rw [bsI_0, upd_eq]
  · unfold gs gsW gE
    rw [upd_eq, kp_ne (by decide) (by decide), g0]
    exact nI_s k
  · rw [bsI_ne (by omega)]
    exact a3.cong (fun _ _ => rfl) (fun f hf => gs_ne (by omega) (by omega))
  · have sc : ScR (fun c => I (B + 21 + c)) (gD d (wshF d 0 8 40) (wshF d 1 16 40) (wshF d 2 24 70) (wshF d 3 32 70)) k := a6.cong (fun _ _ _ _ _ => rfl) (fun y hy => (gBD y (by omega)).trans ((gTB y (by omega)).trans (gHT y (by omega))))
    refine (sc_step (z' := fun c => bsI B I k (B + 21 + c)) sc hk g0 ?_ ?_ ?_ ?_).cong (fun _ _ _ _ _ => rfl) (fun y hy => gE2 y (by omega))
    · show bsI B I k (B + 22) = _
      rw [bsI_22, gBD 44 (by decide)]
      unfold sc1
      rw [show st0 I (B + 1) (B + 19) 4 = _ from A3.1]
    · show bsI B I k (B + 23) = _
      rw [bsI_23]
      unfold sc2
      rw [show st0 I (B + 10) (B + 19) 4 = _ from B3.1]
    · show bsI B I k (B + 24) = _
      rw [bsI_24, gBD 9 (by decide), gBD 17 (by decide)]
      unfold sc3
      rw [show st1 I (B + 1) (B + 19) 1 = _ from A1.2.1, show st2 I (B + 1) (B + 19) 1 = _ from A2.2.1, show st1 I (B + 10) (B + 19) 1 = _ from B1.2.1, show st2 I (B + 10) (B + 19) 1 = _ from B2.2.1]
    · show bsI B I k (B + 25) = _
      rw [bsI_25, gBD 47 (by decide)]
      unfold sc4
      rw [show st0 I (B + 1) (B + 19) 7 = _ from A3.2.2.2.1, show st0 I (B + 10) (B + 19) 7 = _ from B3.2.2.2.1]
  · rw [gE' 100 (by decide) (by decide) (by decide), gBD 100 (by decide), gTB 100 (by decide), bsI_2, bsI_3, bsI_11, bsI_12]
    have x1 : tg2 d (wshF d 0 8 40) (wshF d 1 16 40) 100 + (I (B + 2) 3 + I (B + 3) 3) = d 100 + (st1 I (B + 1) (B + 19) 3 + st2 I (B + 1) (B + 19) 3) := by
      have := A6
      rw [held_ne (by decide)] at this
      exact this
    have x2 : tg4 d (wshF d 0 8 40) (wshF d 1 16 40) (wshF d 2 24 70) (wshF d 3 32 70) 100 + (I (B + 11) 3 + I (B + 12) 3) = tg2 d (wshF d 0 8 40) (wshF d 1 16 40) 100 + (st1 I (B + 10) (B + 19) 3 + st2 I (B + 10) (B + 19) 3) := B6
    generalize tg4 d (wshF d 0 8 40) (wshF d 1 16 40) (wshF d 2 24 70) (wshF d 3 32 70) 100 = t4 at *
    generalize tg2 d (wshF d 0 8 40) (wshF d 1 16 40) 100 = t2 at *
    generalize st1 I (B + 1) (B + 19) 3 = n1 at *
    generalize st2 I (B + 1) (B + 19) 3 = n2 at *
    generalize st1 I (B + 10) (B + 19) 3 = n3 at *
    generalize st2 I (B + 10) (B + 19) 3 = n4 at *
    generalize I (B + 2) 3 = o1 at *
    generalize I (B + 3) 3 = o2 at *
    generalize I (B + 11) 3 = o3 at *
    generalize I (B + 12) 3 = o4 at *
    generalize d 100 = dd at *
    clear A1 A2 A3 A4 A5 A6 A7 A8 B1 B2 B3 B4 B5 B6 B7 B8 L0 L1 gBD gTB gHT gE' gE2 eA eB p1 q1 b1 v1 f1 p2 q2 b2 v2 f2 a6 a8 a9 a3 e1
    grind
  · rw [gE' 101 (by decide) (by decide) (by decide), gBD 101 (by decide), gTB 101 (by decide), bsI_1, bsI_10]
    have y1 : st0 I (B + 1) (B + 19) 11 = I (B + 1) 11 + d 47 := A7
    have y2 : st0 I (B + 10) (B + 19) 11 = I (B + 10) 11 + d 77 := B7
    have y3 : tg4 d (wshF d 0 8 40) (wshF d 1 16 40) (wshF d 2 24 70) (wshF d 3 32 70) 101 = d 101 + d 47 + d 77 := by
      unfold tg4 tg3 tg2 tg1
      rw [tl_ne (by omega) (by omega) (by omega), tl_ne (by omega) (by omega) (by omega), tl_ne (by omega) (by omega) (by omega), tl_ne (by omega) (by omega) (by omega)]
      unfold heldM
      rw [upd_eq]
    rw [y1, y2, y3, a8]
    exact i32_ac _ _ _ _
  · rw [bsL_1, bsL_10]
    have z1 : gB d (wshF d 0 8 40) (wshF d 1 16 40) (wshF d 2 24 70) (wshF d 3 32 70) 44 = curF (b1F (I (B + 1)) (I (B + 1 + 1)) (I (B + 1 + 2)) (I (B + 1 + 5)) (I (B + 19 + 1))) (I (B + 1 + 4)) := A3.1.symm.trans A8
    have z2 : gD d (wshF d 0 8 40) (wshF d 1 16 40) (wshF d 2 24 70) (wshF d 3 32 70) 74 = curF (b1F (I (B + 10)) (I (B + 10 + 1)) (I (B + 10 + 2)) (I (B + 10 + 5)) (I (B + 19 + 1))) (I (B + 10 + 4)) := B3.1.symm.trans B8
    unfold gsL gsLW
    rw [z1, z2, a9]
    unfold stL
    rw [show ∀ (f : Nat → Int64) (x : Int64), vp_updL f 12 x 12 = x from fun f x => rfl, show ∀ (f : Nat → Int64) (x : Int64), vp_updL f 12 x 12 = x from fun f x => rfl, ← abs_eq, ← abs_eq]
    exact i64_ac _ _ _ _
  · have r1 : stR I (B + 1) (B + 19) = latR (lk3 (tg4 d (wshF d 0 8 40) (wshF d 1 16 40) (wshF d 2 24 70) (wshF d 3 32 70)) 8 40) 40 := A5
    have r2 : stR I (B + 10) (B + 19) = latR (lk3 (gB d (wshF d 0 8 40) (wshF d 1 16 40) (wshF d 2 24 70) (wshF d 3 32 70)) 24 70) 70 := B5
    rw [r1, r2]
    unfold gsR gsRW
    rw [Int32.zero_add]
