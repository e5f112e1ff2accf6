/-! what holds of the class between the law's calls, and each call that changes it -/
def HisI (I : SI) (o kp : Nat) : Prop := I 53 1 = nI o ∧ I 53 2 = nI kp ∧ o < 4 ∧ kp ≤ 4 ∧ ∀ j, j < 4 → ∃ k', k' ≤ 2000 ∧ BlkI I (55 + 26 * j) k'
theorem HisI.fr {I I' : SI} {o kp : Nat} (h : HisI I o kp) (e : ∀ z, 53 ≤ z → I' z = I z) : HisI I' o kp := by
  obtain ⟨h1, h2, h3, h4, h5⟩ := h
  refine ⟨by rw [e 53 (by decide)]; exact h1, by rw [e 53 (by decide)]; exact h2, h3, h4, fun j hj => ?_⟩
  obtain ⟨k', g1, g2⟩ := h5 j hj
  exact ⟨k', g1, g2.fr (fun z hz => e z (by omega))⟩
theorem HisI.rec {I I1 : SI} {L L1 : SL} {o kp k : Nat} (h : HisI I o kp) (hB : BlkI I 1 k) (hk : k ≤ 2000) (r : RecP I L I1 L1 o kp) : ∃ o' kp', HisI I1 o' kp' ∧ 0 < kp' := by
  obtain ⟨h1, h2, h3, h4, h5⟩ := h
  obtain ⟨r1, r2, r3, r4, r5⟩ := r
  refine ⟨_, _, ⟨r4, r5, ?_, recK_le h4, fun j hj => ?_⟩, ?_⟩
  · split <;> omega
  · by_cases q : j = (o + kp) % 4
    · refine ⟨k, hk, ?_⟩
      rw [q]
      exact hB.cp r1
    · obtain ⟨k', g1, g2⟩ := h5 j hj
      refine ⟨k', g1, g2.fr (fun z hz => r2 z ?_ (by omega))⟩
      unfold recT
      omega
  · unfold recK
    split <;> omega
theorem RingI.fr {I I' : SI} {k D : Nat} {M : Nat → Nat} (h : RingI I k D M) (e1 : ∀ n, n < 4 → ∀ f, 1 ≤ f → f < 6 → I' (lgc n) f = I (lgc n) f) (e2 : ∀ j, j < 2 → I' (ldb j) 4 = I (ldb j) 4) (e3 : ∀ z, z = 23 ∨ z = 24 ∨ z = 25 → I' z = I z) : RingI I' k D M := by
  obtain ⟨sg, ga, h1, h2, h3⟩ := h
  refine ⟨sg, ga, fun n hn => (h1 n hn).cong (e1 n hn), fun j hj => ?_, fun s g1 g2 => ?_⟩
  · rw [e2 j hj]
    exact h2 j hj
  · rw [e3 23 (by decide), e3 24 (by decide), e3 25 (by decide)]
    exact h3 s g1 g2
theorem lgc_v {n : Nat} (hn : n < 4) : lgc n = 3 ∨ lgc n = 4 ∨ lgc n = 12 ∨ lgc n = 13 := by
  rcases (show n = 0 ∨ n = 1 ∨ n = 2 ∨ n = 3 by omega) with rfl | rfl | rfl | rfl
  · exact Or.inl rfl
  · exact Or.inr (Or.inl rfl)
  · exact Or.inr (Or.inr (Or.inl rfl))
  · exact Or.inr (Or.inr (Or.inr rfl))
theorem ldb_v {j : Nat} (hj : j < 2) : ldb j = 2 ∨ ldb j = 11 := by
  rcases (show j = 0 ∨ j = 1 by omega) with rfl | rfl
  · exact Or.inl rfl
  · exact Or.inr rfl
theorem dvc_v {j : Nat} (hj : j < 2) : dvc j = 6 ∨ dvc j = 15 := by
  rcases (show j = 0 ∨ j = 1 by omega) with rfl | rfl
  · exact Or.inl rfl
  · exact Or.inr rfl
/-- all of it -/
def Inv (I : SI) (D k : Nat) (M : Nat → Nat) : Prop := BlkI I 1 k ∧ RingI I k D M ∧ DvI I M ∧ I 21 0 = nI D ∧ ∃ o kp, HisI I o kp ∧ 0 < kp
theorem Inv.fr {I I' : SI} {D k : Nat} {M : Nat → Nat} (h : Inv I D k M) (e : ∀ z, z < 27 ∨ 53 ≤ z → I' z = I z) : Inv I' D k M := by
  obtain ⟨h1, h2, h3, h4, o, kp, h5, h6⟩ := h
  refine ⟨h1.fr (fun z hz => e z (by omega)), h2.fr (fun n hn f _ _ => ?_) (fun j hj => ?_) (fun z hz => e z (by omega)), fun j hj => ?_, ?_, o, kp, h5.fr (fun z hz => e z (by omega)), h6⟩
  · rw [e (lgc n) (by have := lgc_v hn; omega)]
  · rw [e (ldb j) (by have := ldb_v hj; omega)]
  · rw [e (dvc j) (by have := dvc_v hj; omega)]
    exact h3 j hj
  · rw [e 21 (by omega)]
    exact h4
theorem Inv.rec {I I1 : SI} {L L1 : SL} {D k o kp : Nat} {M : Nat → Nat} (h1 : BlkI I 1 k) (h2 : RingI I k D M) (h3 : DvI I M) (h4 : I 21 0 = nI D) (h5 : HisI I o kp) (hk : k ≤ 2000) (r : RecP I L I1 L1 o kp) : Inv I1 D k M := by
  have e : ∀ z, z < 27 → I1 z = I z := fun z hz => r.fr (by omega) (by omega)
  refine ⟨h1.fr (fun z hz => e z (by omega)), h2.fr (fun n hn f _ _ => ?_) (fun j hj => ?_) (fun z hz => e z (by omega)), fun j hj => ?_, ?_, h5.rec h1 hk r⟩
  · rw [e (lgc n) (by have := lgc_v hn; omega)]
  · rw [e (ldb j) (by have := ldb_v hj; omega)]
  · rw [e (dvc j) (by have := dvc_v hj; omega)]
    exact h3 j hj
  · rw [e 21 (by omega)]
    exact h4
/-- a leg's row with another command -/
theorem BlkI.set_leg {I : SI} {k n : Nat} {r : Nat → Int32} (h : BlkI I 1 k) (hn : n < 4) (hr : LegI r k) : BlkI (up I (lgc n) r) 1 k := by
  obtain ⟨h0, ⟨p1, q1, b1, f1⟩, ⟨p2, q2, b2, f2⟩⟩ := h
  have p1 : LegI (I 3) k := p1
  have q1 : LegI (I 4) k := q1
  have p2 : LegI (I 12) k := p2
  have q2 : LegI (I 13) k := q2
  rcases (show n = 0 ∨ n = 1 ∨ n = 2 ∨ n = 3 by omega) with rfl | rfl | rfl | rfl
  · exact ⟨h0, ⟨hr, q1, b1, f1⟩, ⟨p2, q2, b2, f2⟩⟩
  · exact ⟨h0, ⟨p1, hr, b1, f1⟩, ⟨p2, q2, b2, f2⟩⟩
  · exact ⟨h0, ⟨p1, q1, b1, f1⟩, ⟨hr, q2, b2, f2⟩⟩
  · exact ⟨h0, ⟨p1, q1, b1, f1⟩, ⟨p2, hr, b2, f2⟩⟩
theorem LegI.cmd {a : Nat → Int32} {k c : Nat} (h : LegI a k) (hc : c < 3) : LegI (upd a 0 (nI c)) k := by
  obtain ⟨h0, h1, h2⟩ := h
  refine ⟨?_, h1, h2⟩
  rw [upd_eq]
  rcases (show c = 0 ∨ c = 1 ∨ c = 2 by omega) with rfl | rfl | rfl
  · exact Or.inl rfl
  · exact Or.inr (Or.inl rfl)
  · exact Or.inr (Or.inr rfl)
theorem lgc_inj {n m : Nat} (hn : n < 4) (hm : m < 4) (h : lgc n = lgc m) : n = m := by
  rcases (show n = 0 ∨ n = 1 ∨ n = 2 ∨ n = 3 by omega) with rfl | rfl | rfl | rfl <;> rcases (show m = 0 ∨ m = 1 ∨ m = 2 ∨ m = 3 by omega) with rfl | rfl | rfl | rfl <;> first | rfl | exact absurd h (by decide)
theorem Inv.cmd {I : SI} {D k n c : Nat} {M : Nat → Nat} (h : Inv I D k M) (hn : n < 4) (hc : c < 3) : Inv (up I (lgc n) (upd (I (lgc n)) 0 (nI c))) D k M := by
  obtain ⟨h1, h2, h3, h4, o, kp, h5, h6⟩ := h
  have hl := lgc_v hn
  refine ⟨h1.set_leg hn ((h1.leg n hn).cmd hc), h2.fr (fun m hm f g1 _ => ?_) (fun j hj => ?_) (fun z hz => ?_), fun j hj => ?_, ?_, o, kp, h5.fr (fun z hz => ?_), h6⟩
  · by_cases q : m = n
    · rw [q, up_eq, upd_ne (by omega)]
    · rw [up_ne (fun z => q (lgc_inj hm hn z))]
  · rw [up_ne (by have := ldb_v hj; omega)]
  · rw [up_ne (by omega)]
  · rw [up_ne (by have := dvc_v hj; omega)]
    exact h3 j hj
  · rw [up_ne (by omega)]
    exact h4
  · rw [up_ne (by omega)]
theorem BlkI.set_ft {I : SI} {k j : Nat} {n t : Nat → Int32} (h : BlkI I 1 k) (hj : j < 2) (hr : FtI n t (I (ftu j)) k) : BlkI (up (up I (ftn j) n) (ftt j) t) 1 k := by
  obtain ⟨h0, ⟨p1, q1, b1, f1⟩, ⟨p2, q2, b2, f2⟩⟩ := h
  rcases (show j = 0 ∨ j = 1 by omega) with rfl | rfl
  · exact ⟨h0, ⟨p1, q1, b1, hr⟩, ⟨p2, q2, b2, f2⟩⟩
  · exact ⟨h0, ⟨p1, q1, b1, f1⟩, ⟨p2, q2, b2, hr⟩⟩
theorem FtI.clr {n t u : Nat → Int32} {k f : Nat} (h : FtI n t u k) (hf : f < 3) (ht : ¬ t f = 0) : FtI (upd n 3 (n 3 - 1)) (upd t f 0) u k := by
  obtain ⟨h1, h2, h3⟩ := h
  have e : t f = 1 := by
    rcases h1 f hf with q | q
    · exact absurd q ht
    · exact q
  have ac : ∀ x y : Int32, x + y - y = x := fun x y => Int32.add_sub_cancel x y
  refine ⟨fun g hg => ?_, ?_, fun g hg hg0 => ?_⟩
  · by_cases q : g = f
    · rw [q, upd_eq]
      exact Or.inl rfl
    · rw [upd_ne q]
      exact h1 g hg
  · rw [upd_eq, h2]
    rcases (show f = 0 ∨ f = 1 ∨ f = 2 by omega) with q | q | q
    · rw [q] at e ⊢
      rw [upd_eq, upd_ne (by decide), upd_ne (by decide), e, Int32.zero_add, show (1 : Int32) + t 1 + t 2 = t 1 + t 2 + 1 by ac_rfl, ac]
    · rw [q] at e ⊢
      rw [upd_eq, upd_ne (by decide), upd_ne (by decide), e, Int32.add_zero, show t 0 + 1 + t 2 = t 0 + t 2 + 1 by ac_rfl, ac]
    · rw [q] at e ⊢
      rw [upd_eq, upd_ne (by decide), upd_ne (by decide), e, Int32.add_zero, ac]
  · by_cases q : g = f
    · rw [q, upd_eq] at hg0
      exact absurd rfl hg0
    · rw [upd_ne q] at hg0
      exact h3 g hg hg0
theorem ftn_v {j : Nat} (hj : j < 2) : ftn j = 7 ∨ ftn j = 16 := by
  rcases (show j = 0 ∨ j = 1 by omega) with rfl | rfl
  · exact Or.inl rfl
  · exact Or.inr rfl
theorem ftt_v {j : Nat} (hj : j < 2) : ftt j = 8 ∨ ftt j = 17 := by
  rcases (show j = 0 ∨ j = 1 by omega) with rfl | rfl
  · exact Or.inl rfl
  · exact Or.inr rfl
theorem Inv.clr {I : SI} {D k j f : Nat} {M : Nat → Nat} (h : Inv I D k M) (hj : j < 2) (hf : f < 3) (ht : ¬ I (ftt j) f = 0) : Inv (up (up I (ftn j) (upd (I (ftn j)) 3 (I (ftn j) 3 - 1))) (ftt j) (upd (I (ftt j)) f 0)) D k M := by
  obtain ⟨h1, h2, h3, h4, o, kp, h5, h6⟩ := h
  have hn := ftn_v hj
  have hq := ftt_v hj
  have e : ∀ z, z ≠ 7 → z ≠ 16 → z ≠ 8 → z ≠ 17 → up (up I (ftn j) (upd (I (ftn j)) 3 (I (ftn j) 3 - 1))) (ftt j) (upd (I (ftt j)) f 0) z = I z := fun z a b c d => by
    rw [up_ne (by omega), up_ne (by omega)]
  refine ⟨h1.set_ft hj ((h1.ft j hj).clr hf ht), h2.fr (fun m hm f _ _ => ?_) (fun i hi => ?_) (fun z hz => e z (by omega) (by omega) (by omega) (by omega)), fun i hi => ?_, ?_, o, kp, h5.fr (fun z hz => e z (by omega) (by omega) (by omega) (by omega)), h6⟩
  · have := lgc_v hm
    rw [e (lgc m) (by omega) (by omega) (by omega) (by omega)]
  · have := ldb_v hi
    rw [e (ldb i) (by omega) (by omega) (by omega) (by omega)]
  · have := dvc_v hi
    rw [e (dvc i) (by omega) (by omega) (by omega) (by omega)]
    exact h3 i hi
  · rw [e 21 (by omega) (by omega) (by omega) (by omega)]
    exact h4
/-- slots go by -/
theorem Inv.go {I : SI} {L : SL} {D k : Nat} {M : Nat → Nat} (h : Inv I D k M) (hD : D < 2 ^ 28) (n : Nat) (hk : k + n < 2 ^ 28) : Inv (brIt 1 k n (I, L)).1 D (k + n) M := by
  obtain ⟨h1, h2, h3, h4, o, kp, h5, h6⟩ := h
  have e : ∀ m z, z < 1 ∨ 1 + 26 ≤ z ∨ z = 1 + 4 ∨ z = 1 + 5 ∨ z = 1 + 13 ∨ z = 1 + 14 ∨ z = 1 + 19 ∨ z = 1 + 20 ∨ z = 1 + 21 → (brIt 1 k m (I, L)).1 z = I z := fun m z hz => brIt_ne hz
  have hdv : ∀ m, DvI (brIt 1 k m (I, L)).1 M := fun m j hj => by
    have := dvc_v hj
    rw [e m (dvc j) (by omega)]
    exact h3 j hj
  have hR : ∀ m, m ≤ n → RingI (brIt 1 k m (I, L)).1 (k + m) D M := by
    intro m
    induction m with
    | zero => exact fun _ => h2
    | succ m ih =>
      intro hm
      exact RingI.step (ih (by omega)) h1.it (hdv m) (by rw [e m 21 (by omega)]; exact h4) (by omega) (by omega)
  refine ⟨h1.it, hR n (Nat.le_refl n), hdv n, by rw [e n 21 (by omega)]; exact h4, o, kp, h5.fr (fun z hz => e n z (by omega)), h6⟩
