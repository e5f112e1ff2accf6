/-! pure: a slot of a load, of a bridge -/
theorem b0_o {b : Nat → Int32} {f : Nat} (h : f ≠ 11) : b0F b f = b f := by
  unfold b0F
  split
  · rfl
  · exact upd_ne h
theorem b0_11 {b : Nat → Int32} (h : isb (b 7)) : b0F b 11 = b 11 + b 7 := by
  unfold b0F
  rcases h with h | h
  · rw [if_pos h, h, Int32.add_zero]
  · rw [if_neg (by rw [h]; decide), upd_eq, h]
theorem wsh_r {d : Nat → Int32} {n l L : Nat} (h0 : d l = 0 ∨ d l = 1 ∨ d l = 2) (h8 : n % 2 = 0 → d (l + 8) = 0 ∨ d (l + 8) = 1 ∨ d (l + 8) = 2) : wshF d n l L = 0 ∨ wshF d n l L = 1 ∨ wshF d n l L = 2 := by
  obtain ⟨a, ha, e⟩ := wsh_in (L := L) h0 h8
  rw [e]
  exact in3 ha
theorem legs_v {b p q n sv : Nat → Int32} : (∀ f, f < 8 → legsF b p q n sv f = b f) ∧ legsF b p q n sv 11 = b 11 ∧ legsF b p q n sv 8 = (if ¬ stF p (fWishF b p q n) (sv 0) = p 1 ∨ ¬ stF q (sWishF q n) (sv 0) = q 1 then sv 1 else b 8) ∧
    legsF b p q n sv 9 = drvF (legF p (fWishF b p q n) (sv 0)) (legF q (sWishF q n) (sv 0)) ∧ legsF b p q n sv 10 = (if drvF (legF p (fWishF b p q n) (sv 0)) (legF q (sWishF q n) (sv 0)) = 1 ∨ drvF (legF p (fWishF b p q n) (sv 0)) (legF q (sWishF q n) (sv 0)) = -1 then b 10 + 1 else 0) := by
  unfold legsF
  refine ⟨?_, ?_, ?_, ?_, ?_⟩
  · intro f hf
    rw [upd_ne (by omega), upd_ne (by omega)]
    split
    · rw [upd_ne (by omega)]
    · rfl
  · rw [upd_ne (by decide), upd_ne (by decide)]
    split
    · rw [upd_ne (by decide)]
    · rfl
  · rw [upd_ne (by decide), upd_ne (by decide)]
    split
    · rw [upd_eq]
    · rfl
  · rw [upd_ne (by decide), upd_eq]
  · rw [upd_eq]
/-- the entries of a load in the model's row -/
def InLd (l L z : Nat) : Prop := z < 7 ∨ (l ≤ z ∧ z < l + 16) ∨ (L ≤ z ∧ z < L + 22)
def tl2 (d d1 : Nat → Int32) (l L N : Nat) : Nat → Int32 := tlF (tlF d1 l L (nowF d1 l (wshF d N l L))) (l + 8) L (nowF (tlF d1 l L (nowF d1 l (wshF d N l L))) (l + 8) (wshF d (N + 1) (l + 8) L))
theorem load_step {b p q n dv sv t u w d d1 e5 : Nat → Int32} {l L k N : Nat} (hlL : (l = 8 ∧ L = 40) ∨ (l = 24 ∧ L = 70)) (hN : N % 2 = 0) (hp : LegR p d l k) (hq : LegR q d (l + 8) k) (hb : LoR b d L) (hdv : DvR dv d L) (hsv : SvR sv d) (hf : FtR t u w n d L k 0) (hk : k < 2 ^ 28) (hd0 : d 0 = nI k)
    (a1 : ∀ z, InLd l L z → d1 z = d z) (a5 : ∀ z, InLd l L z → e5 z = tl2 d d1 l L N z) :
    LegR (p1F b p q n sv) (dcM (latM (lk3 e5 l L) L) L) l (k + 1) ∧ LegR (q1F q n sv) (dcM (latM (lk3 e5 l L) L) L) (l + 8) (k + 1) ∧ LoR (b5F b p q n dv sv) (dcM (latM (lk3 e5 l L) L) L) L ∧
    FtR (seeT (b4F b p q n dv sv) dv sv t) (seeU (b4F b p q n dv sv) dv sv t u (nI k)) (seeW (b4F b p q n dv sv) dv sv t w) (seeN (b4F b p q n dv sv) dv sv t n) (dcM (latM (lk3 e5 l L) L) L) L (k + 1) 0 ∧
    seeR (b4F b p q n dv sv) dv sv t = latR (lk3 e5 l L) L ∧ tl2 d d1 l L N 100 + (p 3 + q 3) = d1 100 + (p1F b p q n sv 3 + q1F q n sv 3) ∧ b5F b p q n dv sv 11 = b 11 + d (L + 7) ∧ b5F b p q n dv sv 4 = curF (b1F b p q n sv) dv := by
  have hl1 : 8 ≤ l := by omega
  have hl2 : l + 15 ≤ L := by omega
  have hl3 : L + 21 < 100 := by omega
  obtain ⟨D, hD, hD2⟩ := hsv.2.1
  have s0 : sv 0 = d 1 := hsv.1 0 (by decide)
  have s1 : sv 1 = d 2 := hsv.1 1 (by decide)
  have hb' := hb
  obtain ⟨b4, b5, b6, b7, b8, b9, b10, i6, i7, bq, c1, c2⟩ := hb
  have w0 : fWishF (b0F b) p q n = wshF d N l L := wish0 hf (by rw [b0_o (by decide)]; exact b7) (by rw [b0_o (by decide)]; exact i7) hp.1 hq.1 hN
  have w1 : sWishF q n = wshF d (N + 1) (l + 8) L := wish1 hf hq.1 (by omega)
  have pr : d l = 0 ∨ d l = 1 ∨ d l = 2 := by rw [← hp.1]; exact hp.2.2.2.2.2.2.1
  have qr : d (l + 8) = 0 ∨ d (l + 8) = 1 ∨ d (l + 8) = 2 := by rw [← hq.1]; exact hq.2.2.2.2.2.2.1
  have r0 := wsh_r (n := N) (L := L) pr (fun _ => qr)
  have r1 := wsh_r (n := N + 1) (L := L) qr (fun z => absurd z (by omega))
  have hp1 : LegR p d1 l k := hp.cong (fun _ _ => rfl) (fun f hf => a1 _ (Or.inr (Or.inl ⟨by omega, by omega⟩)))
  have d1s : d1 1 = sv 0 := (a1 1 (Or.inl (by decide))).trans s0.symm
  have st1 := leg_step (L := L) hp1 (by omega) hD (by omega) d1s r0 hl1 (by omega) hl3
  have n0 := st_now (w := wshF d N l L) hp1 (by omega) hD (by omega) d1s
  obtain ⟨-, -, -, -, -, -, -, m8, m100⟩ := tl_v (d := d1) (l := l) (L := L) (now := nowF d1 l (wshF d N l L)) hl1 (by omega) hl3
  have tA := fun z h h1 h2 => @tl_ne d1 l L z (nowF d1 l (wshF d N l L)) h h1 h2
  generalize hx1 : tlF d1 l L (nowF d1 l (wshF d N l L)) = x1 at *
  have hq1 : LegR q x1 (l + 8) k := hq.cong (fun _ _ => rfl) (fun f hf => (tA _ (by omega) (by omega) (by omega)).trans (a1 _ (Or.inr (Or.inl ⟨by omega, by omega⟩))))
  have x1s : x1 1 = sv 0 := (tA _ (by omega) (by omega) (by omega)).trans d1s
  have st2 := leg_step (L := L) hq1 (by omega) hD (by omega) x1s r1 (by omega) (by omega) hl3
  have n1 := st_now (w := wshF d (N + 1) (l + 8) L) hq1 (by omega) hD (by omega) x1s
  obtain ⟨-, -, -, -, -, -, -, k8, k100⟩ := tl_v (d := x1) (l := l + 8) (L := L) (now := nowF x1 (l + 8) (wshF d (N + 1) (l + 8) L)) (by omega) (by omega) hl3
  have tB := fun z h h1 h2 => @tl_ne x1 (l + 8) L z (nowF x1 (l + 8) (wshF d (N + 1) (l + 8) L)) h h1 h2
  have htl2 : tl2 d d1 l L N = tlF x1 (l + 8) L (nowF x1 (l + 8) (wshF d (N + 1) (l + 8) L)) := by
    unfold tl2
    rw [hx1]
  rw [htl2] at a5 ⊢
  generalize hx2 : tlF x1 (l + 8) L (nowF x1 (l + 8) (wshF d (N + 1) (l + 8) L)) = x2 at *
  -- the rows of the legs
  have eP : p1F b p q n sv = legF p (wshF d N l L) (sv 0) := by
    unfold p1F
    rw [w0]
  have eQ : q1F q n sv = legF q (wshF d (N + 1) (l + 8) L) (sv 0) := by
    unfold q1F
    rw [w1]
  have hP5 : LegR (p1F b p q n sv) e5 l (k + 1) := by
    rw [eP]
    exact st1.cong (fun _ _ => rfl) (fun f hf => (a5 _ (Or.inr (Or.inl ⟨by omega, by omega⟩))).trans (tB _ (by omega) (by omega) (by omega)))
  have hQ5 : LegR (q1F q n sv) e5 (l + 8) (k + 1) := by
    rw [eQ]
    exact st2.cong (fun _ _ => rfl) (fun f hf => a5 _ (Or.inr (Or.inl ⟨by omega, by omega⟩)))
  have E : ∀ f, f < 22 → f ≠ 8 → e5 (L + f) = d (L + f) := fun f hf h8 => (a5 _ (Or.inr (Or.inr ⟨by omega, by omega⟩))).trans ((tB _ (by omega) (by omega) (by omega)).trans ((tA _ (by omega) (by omega) (by omega)).trans (a1 _ (Or.inr (Or.inr ⟨by omega, by omega⟩)))))
  have S : ∀ z, z < 7 → e5 z = d z := fun z hz => (a5 _ (Or.inl hz)).trans ((tB _ (by omega) (by omega) (by omega)).trans ((tA _ (by omega) (by omega) (by omega)).trans (a1 _ (Or.inl hz))))
  obtain ⟨lv, lv11, lv8, lv9, lv10⟩ := @legs_v (b0F b) p q n sv
  have hdv5 : DvR dv e5 L := hdv.cong (fun _ _ => rfl) (fun f hf => E f (by omega) (by omega))
  have e8 : b1F b p q n sv 8 = e5 (L + 8) ∧ ∃ s, b1F b p q n sv 8 = nI s ∧ s ≤ 50 := by
    have p1e : p 1 = d1 (l + 1) := hp1.2.1
    have q1e : q 1 = x1 (l + 8 + 1) := hq1.2.1
    have d12 : d1 2 = sv 1 := (a1 2 (Or.inl (by decide))).trans s1.symm
    have x12 : x1 2 = sv 1 := (tA _ (by omega) (by omega) (by omega)).trans d12
    have d18 : d1 (L + 8) = b 8 := (a1 _ (Or.inr (Or.inr ⟨by omega, by omega⟩))).trans b8.symm
    unfold b1F
    rw [lv8, w0, w1, n0, n1, b0_o (by decide), p1e, q1e, a5 _ (Or.inr (Or.inr ⟨by omega, by omega⟩)), k8, m8, x12, d12, d18]
    by_cases h1 : nowF x1 (l + 8) (wshF d (N + 1) (l + 8) L) = x1 (l + 8 + 1)
    · by_cases h0 : nowF d1 l (wshF d N l L) = d1 (l + 1)
      · rw [if_neg (fun z => z.elim (fun z => z h0) (fun z => z h1)), if_pos h1, if_pos h0]
        exact ⟨rfl, bq⟩
      · rw [if_pos (Or.inl h0), if_pos h1, if_neg h0]
        exact ⟨rfl, hsv.2.2⟩
    · rw [if_pos (Or.inr h1), if_neg h1]
      exact ⟨rfl, hsv.2.2⟩
  have L1 : LoR (b2F b p q n dv sv) (flF e5 l L) L := by
    unfold b2F
    have z4 : b1F b p q n sv 4 = b 4 := by unfold b1F; rw [lv 4 (by decide), b0_o (by decide)]
    refine flow_step (p := p1F b p q n sv) (q := q1F q n sv) ?_ ?_ ?_ ?_ e8.1 ?_ ?_ ?_ ?_ e8.2 ?_ ?_ hdv5 hP5.2.1 hQ5.2.1
    · rw [z4, b4, E 4 (by decide) (by decide)]
    · unfold b1F
      rw [lv 5 (by decide), b0_o (by decide), b5, E 5 (by decide) (by decide)]
    · unfold b1F
      rw [lv 6 (by decide), b0_o (by decide), b6, E 6 (by decide) (by decide)]
    · unfold b1F
      rw [lv 7 (by decide), b0_o (by decide), b7, E 7 (by decide) (by decide)]
    · unfold b1F
      rw [lv10, b0_o (by decide), b10, E 10 (by decide) (by decide)]
      rfl
    · unfold b1F
      rw [lv9]
      rfl
    · unfold b1F
      rw [lv 6 (by decide), b0_o (by decide)]
      exact i6
    · unfold b1F
      rw [lv 7 (by decide), b0_o (by decide)]
      exact i7
    · rw [z4]
      exact c1
    · rw [z4]
      exact c2
  have L2 : LoR (b3F b p q n dv sv) (htF (flF e5 l L) L) L := heat_step L1 (by
    rw [fl_ne (by omega) (by omega) (by omega), S 6 (by decide)]
    exact hsv.1 5 (by decide))
  have hdv6 : DvR dv (htF (flF e5 l L) L) L := hdv5.cong (fun _ _ => rfl) (fun f hf => (ht_ne (by omega)).trans (fl_ne (by omega) (by omega) (by omega)))
  have L3 : LoR (b4F b p q n dv sv) (lk3 e5 l L) L := look_step L2 hdv6
  have k3 : ∀ z, z ≠ L + 4 → z ≠ L + 5 → z ≠ L + 7 → z ≠ L + 9 → z ≠ L + 10 → lk3 e5 l L z = e5 z := fun z h4 h5 h7 h9 h10 => (lk_ne h7).trans ((ht_ne h5).trans (fl_ne h4 h9 h10))
  have hf3 : FtR t u w n (lk3 e5 l L) L k 0 := hf.cong (fun _ _ => ⟨rfl, rfl, rfl⟩) rfl (fun f h1 h2 => (k3 _ (by omega) (by omega) (by omega) (by omega) (by omega)).trans (E f h2 (by omega)))
  obtain ⟨F1, F2⟩ := lat_step (b := b4F b p q n dv sv) (sv := sv) hf3 L3 (hdv5.cong (fun _ _ => rfl) (fun f hf => k3 _ (by omega) (by omega) (by omega) (by omega) (by omega))) (hsv.cong (fun _ _ => rfl) (fun f hf => (k3 _ (by omega) (by omega) (by omega) (by omega) (by omega)).trans (S _ (by omega)))) hk ((k3 0 (by omega) (by omega) (by omega) (by omega) (by omega)).trans ((S 0 (by decide)).trans hd0)) (by omega)
  have L4 : LoR (b4F b p q n dv sv) (latM (lk3 e5 l L) L) L := L3.cong (fun _ _ _ => rfl) (fun f h1 h2 => lat_ne (by omega))
  have L5 : LoR (b5F b p q n dv sv) (dcM (latM (lk3 e5 l L) L) L) L := dec_step L4
  have ac1 : ∀ x y : Int32, x + 1 + y = x + (y + 1) := fun x y => by rw [Int32.add_assoc, Int32.add_comm 1 y]
  refine ⟨hP5.cong (fun _ _ => rfl) (fun f hf => dcl_ne (by omega)), hQ5.cong (fun _ _ => rfl) (fun f hf => dcl_ne (by omega)), L5, ?_, F2, ?_, ?_, ?_⟩
  · exact F1.next.cong (fun _ _ => ⟨rfl, rfl, rfl⟩) rfl (fun f h1 h2 => dc_ne (by omega))
  · have q3 : x2 100 + q 3 = x1 100 + q1F q n sv 3 := by
      rw [eQ, (leg_v n1).2.2.2.1, k100, hq1.2.1]
      split
      · rfl
      · exact ac1 _ _
    have p3 : x1 100 + p 3 = d1 100 + p1F b p q n sv 3 := by
      rw [eP, (leg_v n0).2.2.2.1, m100, hp1.2.1]
      split
      · rfl
      · exact ac1 _ _
    have h1 : x2 100 + (p 3 + q 3) = (x2 100 + q 3) + p 3 := by ac_rfl
    have h2 : x1 100 + q1F q n sv 3 + p 3 = (x1 100 + p 3) + q1F q n sv 3 := by ac_rfl
    rw [h1, q3, h2, p3, Int32.add_assoc]
  · have z5 : b5F b p q n dv sv 11 = b4F b p q n dv sv 11 := by
      unfold b5F
      split
      · rfl
      · exact upd_ne (by decide)
    have z4 : b4F b p q n dv sv 11 = b3F b p q n dv sv 11 := by
      unfold b4F lookF
      split
      · rfl
      · split
        · exact upd_ne (by decide)
        · split
          · exact upd_ne (by decide)
          · rfl
    rw [z5, z4]
    unfold b3F
    rw [upd_ne (by decide)]
    unfold b2F
    rw [upd_ne (by decide)]
    unfold b1F
    rw [lv11, b0_11 i7, b7]
  · have z5 : b5F b p q n dv sv 4 = b4F b p q n dv sv 4 := by
      unfold b5F
      split
      · rfl
      · exact upd_ne (by decide)
    have z4 : b4F b p q n dv sv 4 = b3F b p q n dv sv 4 := by
      unfold b4F lookF
      split
      · rfl
      · split
        · exact upd_ne (by decide)
        · split
          · exact upd_ne (by decide)
          · rfl
    rw [z5, z4]
    unfold b3F
    rw [upd_ne (by decide)]
    unfold b2F
    rw [upd_eq]
