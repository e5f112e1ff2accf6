theorem rd_dec {g : Nat → Int32} {n p : Nat} : (∃ p' m, RdOk g n p p' m) ∨ ∃ q, RdNo g n p q := by
  by_cases l0 : letF (sgF g n p) = -1
  · exact Or.inr ⟨p, Or.inl ⟨0, by decide, fun i hi => absurd hi (Nat.not_lt_zero i), l0, rfl⟩⟩
  by_cases l1 : letF (sgF g n (p + 1)) = -1
  · exact Or.inr ⟨p + 1, Or.inl ⟨1, by decide, fk1 l0, l1, rfl⟩⟩
  by_cases l2 : letF (sgF g n (p + 2)) = -1
  · exact Or.inr ⟨p + 2, Or.inl ⟨2, by decide, fk2 l0 l1, l2, rfl⟩⟩
  by_cases l3 : letF (sgF g n (p + 3)) = -1
  · exact Or.inr ⟨p + 3, Or.inl ⟨3, by decide, fk3 l0 l1 l2, l3, rfl⟩⟩
  have r4 : Rd4 g n p := ⟨l0, l1, l2, l3⟩
  by_cases s : sgF g n (p + 4) = 42
  · have key : ∀ c, RdDg g n p c → (∃ p' m, RdOk g n p p' m) ∨ ∃ q, RdNo g n p q := by
      intro c hc
      by_cases c0 : c = 0
      · exact Or.inr ⟨_, Or.inr ⟨r4, Or.inr ⟨c, hc, Or.inl ⟨Or.inr c0, rfl⟩⟩⟩⟩
      by_cases e : sgF g n (p + 5 + c) = 59
      · by_cases r : INR (valD g (p + 5) c) 1 500
        · exact Or.inl ⟨_, _, r4, Or.inr ⟨c, hc, by omega, e, rfl, r, rfl⟩⟩
        · exact Or.inr ⟨_, Or.inr ⟨r4, Or.inr ⟨c, hc, Or.inr ⟨by omega, e, r, rfl⟩⟩⟩⟩
      · exact Or.inr ⟨_, Or.inr ⟨r4, Or.inr ⟨c, hc, Or.inl ⟨Or.inl e, rfl⟩⟩⟩⟩
    by_cases d0 : dgF (sgF g n (p + 5))
    · by_cases d1 : dgF (sgF g n (p + 5 + 1))
      · by_cases d2 : dgF (sgF g n (p + 5 + 2))
        · exact key 3 ⟨s, by decide, fk3 d0 d1 d2, fun h => absurd h (by decide)⟩
        · exact key 2 ⟨s, by decide, fk2 d0 d1, fun _ => d2⟩
      · exact key 1 ⟨s, by decide, fk1 d0, fun _ => d1⟩
    · exact key 0 ⟨s, by decide, fun i hi => absurd hi (Nat.not_lt_zero i), fun _ => d0⟩
  · by_cases e : sgF g n (p + 4) = 59
    · exact Or.inl ⟨_, _, r4, Or.inl ⟨e, rfl, rfl⟩⟩
    · exact Or.inr ⟨_, Or.inr ⟨r4, Or.inl ⟨s, e, rfl⟩⟩⟩
/-- a text without a fault: its numbers, its slots -/
theorem txt_ok {g : Nat → Int32} {n : Nat} (hn : n ≤ 80) : ∀ r p, n = p + r → fpG g n (n - p) p 0 = -1 → (∀ i, p ≤ i → i < n → g i = 59 → ∃ N, sbL g i 0 1 = nI N ∧ N ≤ 500) ∧ ∃ m, slL g n = slL g p + nI m ∧ m ≤ 500 * r := by
  intro r
  induction r using Nat.strongRecOn with
  | ind r ih =>
    intro p hp hf
    rcases Nat.eq_zero_or_pos r with z | z
    · subst z
      subst hp
      exact ⟨fun i h1 h2 => absurd h2 (by omega), 0, (Int32.add_zero _).symm, by omega⟩
    · rcases rd_dec (g := g) (n := n) (p := p) with ⟨p', m, h⟩ | ⟨q, h⟩
      · obtain ⟨a1, a2, a3, ⟨N, a4, a5, a6⟩, a7, a8, a9, a10⟩ := rd_ok (by omega) h
        rw [a3] at hf
        obtain ⟨b1, M, b2, b3⟩ := ih (n - p') (by omega) p' (by omega) hf
        refine ⟨fun i h1 h2 h3 => ?_, N + M, ?_, by omega⟩
        · rcases Nat.lt_or_ge i p' with w | w
          · rcases Nat.lt_or_ge i (p' - 1) with y | y
            · exact absurd h3 (a7 i h1 y)
            · rw [show i = p' - 1 by omega, a9]
              exact ⟨N, a4, a6⟩
          · exact b1 i w h2 h3
        · rw [b2, rd_sl (by omega) h, a4, Int32.add_assoc, nI_add]
      · have c := rd_no (by omega) h
        rw [c.1] at hf
        exact absurd hf (nI_ne_m1 (by omega))
theorem obeyF_eq {a : Nat → Int32} {c : Int32} : obeyF a c = upd a 0 (obeyM (a 0) c) := by
  unfold obeyF obeyM
  split
  · rfl
  · split
    · rfl
    · split
      · rfl
      · funext z
        unfold upd
        by_cases h : z = 0
        · rw [if_pos h, h]
        · rw [if_neg h]
theorem obeyM_in {x c : Int32} (h : x = 0 ∨ x = 1 ∨ x = 2) : obeyM x c = 0 ∨ obeyM x c = 1 ∨ obeyM x c = 2 := by
  unfold obeyM
  split
  · exact Or.inl rfl
  · split
    · exact Or.inr (Or.inl rfl)
    · split
      · exact Or.inr (Or.inr rfl)
      · exact h
theorem RB.leg0 {I : SI} {L : SL} {d : Nat → Int32} {sz : Int64} {k lg : Nat} (h : RB 1 I L d sz k) (hlg : lg < 4) : I (1 + lgo lg) 0 = d (8 + 8 * lg) ∧ (d (8 + 8 * lg) = 0 ∨ d (8 + 8 * lg) = 1 ∨ d (8 + 8 * lg) = 2) := by
  have c := h.cmds
  rcases (show lg = 0 ∨ lg = 1 ∨ lg = 2 ∨ lg = 3 by omega) with rfl | rfl | rfl | rfl
  · exact ⟨h.2.2.2.1.1.1, c.1⟩
  · exact ⟨h.2.2.2.1.2.1.1, c.2.1⟩
  · exact ⟨h.2.2.2.2.1.1.1, c.2.2.1⟩
  · exact ⟨h.2.2.2.2.1.2.1.1, c.2.2.2⟩
/-- the pattern is played: class and model sign by sign -/
theorem pl_rel {g : Nat → Int32} {I : SI} {L : SL} {d : Nat → Int32} {lx : Nat → Int64} {k n : Nat} (h : RB 1 I L d (lx 3) k) (hk : k ≤ 100000) (hn : n ≤ 80) (hb : ∀ i, i < n → g i = 59 → sbL g i 0 1 = nI (sbL g i 0 1).toNatClampNeg ∧ (sbL g i 0 1).toNatClampNeg ≤ 500) : ∀ j, j ≤ n → RB 1 (plC g k (I, L) j).1.1 (plC g k (I, L) j).1.2 (plM g d lx j).1 ((plM g d lx j).2.1 3) (plC g k (I, L) j).2.2 ∧ (plC g k (I, L) j).2.1 = (plM g d lx j).2.2 ∧ nI (plC g k (I, L) j).2.2 = nI k + slL g j := by
  intro j
  induction j with
  | zero => exact fun _ => ⟨h, rfl, (Int32.add_zero _).symm⟩
  | succ j ih =>
    intro hj
    obtain ⟨a, b, c⟩ := ih (by omega)
    have kb := plC_k (g := g) (k0 := k) (s := (I, L)) (n := n) (j := j) (fun i hi q => (hb i hi q).2) (by omega)
    by_cases e : g j = 59
    · obtain ⟨e1, e2⟩ := hb j (by omega) e
      rw [plC_semi e, plM_semi e]
      refine ⟨?_, rfl, ?_⟩
      · show RB 1 _ _ (gsN (plM g d lx j).1 _) (gsNX (plM g d lx j).1 (plM g d lx j).2.1 _ 3) _
        rw [gsNX_3]
        exact (a.iter _ (by omega)).1
      · show nI ((plC g k (I, L) j).2.2 + (sbL g j 0 1).toNatClampNeg) = nI k + (if g j = 59 then slL g j + sbL g j 0 1 else slL g j)
        rw [if_pos e, ← Int32.add_assoc, ← c, ← nI_add, ← e1]
    · have sl : slL g (j + 1) = slL g j := by
        show (if g j = 59 then slL g j + sbL g j 0 1 else slL g j) = slL g j
        rw [if_neg e]
      rw [sl]
      by_cases q : (plC g k (I, L) j).2.1 < 4
      · have q' : (plM g d lx j).2.2 < 4 := by rw [← b]; exact q
        rw [plC_leg e q, plM_leg e q']
        refine ⟨?_, congrArg (· + 1) b, c⟩
        obtain ⟨l1, l2⟩ := a.leg0 q
        have z := a.cmd (c := obeyM ((plM g d lx j).1 (8 + 8 * (plC g k (I, L) j).2.1)) (g j)) q (obeyM_in l2)
        rw [← b]
        show RB 1 (up _ (lgc (plC g k (I, L) j).2.1) (obeyF _ (g j))) _ _ _ _
        rw [obeyF_eq, lgc_lgo, l1]
        exact z
      · have q' : ¬ (plM g d lx j).2.2 < 4 := by rw [← b]; exact q
        rw [plC_more e q, plM_more e q']
        exact ⟨a, b, c⟩
theorem plC_fr2 {g : Nat → Int32} {k0 j z : Nat} {s : SI × SL} (h : z = 5 ∨ z = 14 ∨ z = 20) : (plC g k0 s j).1.1 z = s.1 z := by
  induction j with
  | zero => rfl
  | succ j ih =>
    by_cases h1 : g j = 59
    · rw [plC_semi h1]
      exact (brIt_ne (by omega)).trans ih
    · by_cases h2 : (plC g k0 s j).2.1 < 4
      · rw [plC_leg h1 h2]
        refine Eq.trans (up_ne ?_) ih
        unfold lgc
        split
        · omega
        · split
          · omega
          · split <;> omega
      · rw [plC_more h1 h2]
        exact ih
theorem sb_cg {g g' : Nat → Int32} : ∀ k (s w : Int32), (∀ j, j < k → g j = g' j) → sbL g k s w = sbL g' k s w := by
  intro k
  induction k with
  | zero => exact fun _ _ _ => rfl
  | succ k ih =>
    intro s w h
    rw [sb_s, sb_s, h k (Nat.lt_succ_self k), ih _ _ (fun j hj => h j (by omega))]
theorem sl_cg {g g' : Nat → Int32} : ∀ k, (∀ j, j < k → g j = g' j) → slL g k = slL g' k := by
  intro k
  induction k with
  | zero => exact fun _ => rfl
  | succ k ih =>
    intro h
    show (if g k = 59 then slL g k + sbL g k 0 1 else slL g k) = (if g' k = 59 then slL g' k + sbL g' k 0 1 else slL g' k)
    rw [h k (Nat.lt_succ_self k), ih (fun j hj => h j (by omega)), sb_cg k 0 1 (fun j hj => h j (by omega))]
theorem fp_cg {g g' : Nat → Int32} {n : Nat} (h : ∀ j, j < n → g j = g' j) : ∀ r k x, r + k = n → fpG g n r k x = fpG g' n r k x := by
  intro r
  induction r with
  | zero => exact fun _ _ _ => rfl
  | succ r ih =>
    intro k x hk
    simp only [fpG]
    rw [h k (by omega), sb_cg k 0 1 (fun j hj => h j (by omega)), ih (k + 1) _ (by omega)]
theorem pl_cg {g g' : Nat → Int32} {k0 : Nat} {s : SI × SL} : ∀ j, (∀ i, i < j → g i = g' i) → plC g k0 s j = plC g' k0 s j := by
  intro j
  induction j with
  | zero => exact fun _ => rfl
  | succ j ih =>
    intro h
    have e := ih (fun i hi => h i (by omega))
    have e2 := h j (Nat.lt_succ_self j)
    have e3 := sb_cg (g := g) (g' := g') j 0 1 (fun i hi => h i (by omega))
    by_cases q : g j = 59
    · rw [plC_semi q, plC_semi (by rw [← e2]; exact q), e, e3]
    · have q' : ¬ g' j = 59 := by rw [← e2]; exact q
      by_cases w : (plC g k0 s j).2.1 < 4
      · rw [plC_leg q w, plC_leg q' (by rw [← e]; exact w), e, e2]
      · rw [plC_more q w, plC_more q' (by rw [← e]; exact w), e]
/-- only what the reading of a text leaves has changed in the model -/
theorem Rel.txt2 {I I2 : SI} {L : SL} (h : Rel I L) {mx' lt' : Nat → Int32} (e : I2 = up (up I 167 lt') 161 mx') (hm : ∀ f, f ≠ 9 → f ≠ 10 → f ≠ 11 → mx' f = I 161 f) : Rel I2 L := by
  obtain ⟨k, o, kp, n, hC, h2, h8⟩ := h
  exact Rel.mk2 hC (fun z hz => by rw [e, up_ne (by omega), up_ne (by omega)]) (fun z hz => rfl) (fun z hz => by rw [e, up_ne (by decide), up_ne (by decide)]) rfl (fun z hz => by rw [e, up_ne (by decide), up_ne (by decide)]) (fun z hz => rfl) (fun z hz => by rw [e, up_ne (by decide), up_ne (by decide)]) (by rw [e, up_eq, hm 2 (by decide) (by decide) (by decide)]; exact h2) (by rw [e, up_eq, hm 8 (by decide) (by decide) (by decide)]; exact h8)
theorem P_wrong {l : Launch} {E : Ev} {I : SI} {L : SL} (h : Rel I L) : PR l E yX8_wrong yX9_wrong wsX8_wrong wsX9_wrong [] I L := by
  have h' := h
  obtain ⟨k, o, kp, n, hC, h2, h8⟩ := h
  have hB := hC.1
  have hR := hB.1
  have hk := hB.2.1
  have hisb := hR.isb
  obtain ⟨ho4, hkp, ho, hkk, hH⟩ := hC.2.1
  have hn80 := hC.2.2.1
  have hxc := hC.2.2.2.1
  have hgg := hC.2.2.2.2
  have hg : ∀ j, j < n → chr (I 160 j) := fun j hj => by rw [(hgg j hj).1]; exact (hgg j hj).2
  have fe : fpG (I 160) n n 0 0 = fpG (I 166) n n 0 0 := fp_cg (fun j hj => (hgg j hj).1) n 0 0 (by omega)
  have se : slL (I 160) n = slL (I 166) n := sl_cg n (fun j hj => (hgg j hj).1)
  by_cases t : fpG (I 166) n n 0 0 = -1
  · refine CX.of (k_X8_wrong (I := I) (L := L) l E _ _ n rfl rfl hxc hn80 hg) ⟨rfl, rfl, Nat.le_of_ble_eq_true rfl, Nat.le_of_ble_eq_true rfl⟩ (fun v I1 L1 hh => ?_)
    obtain ⟨rfl, rfl, rfl⟩ := hh
    refine ⟨_, rfl, CX.of (k_X9_wrong_ok (I := _) (L := _) l E _ _ _ n rfl rfl rfl h8 hn80 t) ⟨rfl, rfl, Nat.le_of_ble_eq_true rfl, Nat.le_of_ble_eq_true rfl⟩ (fun v2 I2 L2 hh => ?_)⟩
    obtain ⟨rfl, mx', lt', rfl, eI, hm⟩ := hh
    exact ⟨by rw [fe, if_pos t], h'.txt2 eI hm⟩
  · refine CX.of (k_X8_wrong (I := I) (L := L) l E _ _ n rfl rfl hxc hn80 hg) ⟨rfl, rfl, Nat.le_of_ble_eq_true rfl, Nat.le_of_ble_eq_true rfl⟩ (fun v I1 L1 hh => ?_)
    obtain ⟨rfl, rfl, rfl⟩ := hh
    refine ⟨_, rfl, CX.of (k_X9_wrong_no (I := _) (L := _) l E _ _ _ n rfl rfl rfl h8 hn80 t) ⟨rfl, rfl, Nat.le_of_ble_eq_true rfl, Nat.le_of_ble_eq_true rfl⟩ (fun v2 I2 L2 hh => ?_)⟩
    obtain ⟨⟨q, q1, rfl, q2⟩, mx', lt', rfl, eI, hm⟩ := hh
    exact ⟨by rw [fe, if_neg t, q2], h'.txt2 eI hm⟩
theorem P_playing {l : Launch} {E : Ev} {I : SI} {L : SL} (h : Rel I L) : PR l E yX8_playing yX9_playing wsX8_playing wsX9_playing [] I L := by
  have h' := h
  obtain ⟨k, o, kp, n, hC, h2, h8⟩ := h
  have hB := hC.1
  have hR := hB.1
  have hk := hB.2.1
  have hisb := hR.isb
  obtain ⟨ho4, hkp, ho, hkk, hH⟩ := hC.2.1
  have hn80 := hC.2.2.1
  have hxc := hC.2.2.2.1
  have hgg := hC.2.2.2.2
  have hg : ∀ j, j < n → chr (I 160 j) := fun j hj => by rw [(hgg j hj).1]; exact (hgg j hj).2
  have fe : fpG (I 160) n n 0 0 = fpG (I 166) n n 0 0 := fp_cg (fun j hj => (hgg j hj).1) n 0 0 (by omega)
  have se : slL (I 160) n = slL (I 166) n := sl_cg n (fun j hj => (hgg j hj).1)
  by_cases t : fpG (I 166) n n 0 0 = -1
  · refine CX.of (k_X8_playing (I := I) (L := L) l E _ _ n rfl rfl hxc hn80 hg) ⟨rfl, rfl, Nat.le_of_ble_eq_true rfl, Nat.le_of_ble_eq_true rfl⟩ (fun v I1 L1 hh => ?_)
    obtain ⟨rfl, rfl, rfl⟩ := hh
    refine ⟨_, rfl, CX.of (k_X9_playing_ok (I := _) (L := _) l E _ _ _ n rfl rfl rfl h8 hn80 t) ⟨rfl, rfl, Nat.le_of_ble_eq_true rfl, Nat.le_of_ble_eq_true rfl⟩ (fun v2 I2 L2 hh => ?_)⟩
    obtain ⟨rfl, mx', lt', rfl, eI, hm⟩ := hh
    exact ⟨by rw [fe, if_pos t, se], h'.txt2 eI hm⟩
  · refine CX.of (k_X8_playing (I := I) (L := L) l E _ _ n rfl rfl hxc hn80 hg) ⟨rfl, rfl, Nat.le_of_ble_eq_true rfl, Nat.le_of_ble_eq_true rfl⟩ (fun v I1 L1 hh => ?_)
    obtain ⟨rfl, rfl, rfl⟩ := hh
    refine ⟨_, rfl, CX.of (k_X9_playing_no (I := _) (L := _) l E _ _ _ n rfl rfl rfl h8 hn80 t) ⟨rfl, rfl, Nat.le_of_ble_eq_true rfl, Nat.le_of_ble_eq_true rfl⟩ (fun v2 I2 L2 hh => ?_)⟩
    obtain ⟨rfl, mx', lt', rfl, eI, hm⟩ := hh
    exact ⟨by rw [fe, if_neg t], h'.txt2 eI hm⟩
theorem P_play {l : Launch} {E : Ev} {I : SI} {L : SL} (h : Rel I L) : PR l E yX8_play yX9_play wsX8_play wsX9_play [] I L := by
  have h' := h
  obtain ⟨k, o, kp, n, hC, h2, h8⟩ := h
  have hB := hC.1
  have hR := hB.1
  have hk := hB.2.1
  have hisb := hR.isb
  obtain ⟨ho4, hkp, ho, hkk, hH⟩ := hC.2.1
  have hn80 := hC.2.2.1
  have hxc := hC.2.2.2.1
  have hgg := hC.2.2.2.2
  have hg : ∀ j, j < n → chr (I 160 j) := fun j hj => by rw [(hgg j hj).1]; exact (hgg j hj).2
  have fe : fpG (I 160) n n 0 0 = fpG (I 166) n n 0 0 := fp_cg (fun j hj => (hgg j hj).1) n 0 0 (by omega)
  have se : slL (I 160) n = slL (I 166) n := sl_cg n (fun j hj => (hgg j hj).1)
  have hsl : I 1 4 = nI k := hR.1
  have hds : I 162 0 = nI k := hR.2.1
  by_cases t : fpG (I 166) n n 0 0 = -1
  · have t1 : fpG (I 160) n n 0 0 = -1 := fe.trans t
    obtain ⟨x1, m, x2, x3⟩ := txt_ok hn80 n 0 (by omega) (by rw [Nat.sub_zero]; exact t)
    have hm : slL (I 166) n = nI m := x2.trans (Int32.zero_add _)
    have hm1 : slL (I 160) n = nI m := se.trans hm
    have hb : ∀ i, i < n → I 166 i = 59 → sbL (I 166) i 0 1 = nI (sbL (I 166) i 0 1).toNatClampNeg ∧ (sbL (I 166) i 0 1).toNatClampNeg ≤ 500 := by
      intro i hi e
      obtain ⟨N, n1, n2⟩ := x1 i (Nat.zero_le i) hi e
      rw [n1, nI_clamp (by omega)]
      exact ⟨rfl, n2⟩
    have hb1 : ∀ i, i < n → I 160 i = 59 → sbL (I 160) i 0 1 = nI (sbL (I 160) i 0 1).toNatClampNeg ∧ (sbL (I 160) i 0 1).toNatClampNeg ≤ 500 := by
      intro i hi e
      rw [sb_cg i 0 1 (fun j hj => (hgg j (by omega)).1)]
      exact hb i hi (by rw [← (hgg i hi).1]; exact e)
    by_cases c : k + m ≤ 100000
    · refine CX.of (k_X8_play_ok (I := I) (L := L) l E _ _ _ _ o kp n k m rfl rfl rfl rfl ho hkk ho4 hkp hisb hxc hn80 hg hb1 t1 hsl hk hm1 (by omega) c) ⟨rfl, rfl, Nat.le_of_ble_eq_true rfl, Nat.le_of_ble_eq_true rfl⟩ (fun v I1 L1 hh => ?_)
      obtain ⟨J, M, hr, rfl, eI, eL⟩ := hh
      obtain ⟨o', hC'⟩ := hC.rec hr
      rw [pl_cg n (fun j hj => (hgg j hj).1)] at eI eL
      obtain ⟨p1, p2, p3⟩ := pl_rel (lx := L 161) hC'.1.1 hk hn80 hb n (Nat.le_refl n)
      have kb := plC_k (g := I 166) (k0 := k) (s := (J, M)) (n := n) (j := n) (fun i hi q => (hb i hi q).2) (Nat.le_refl n)
      have k2 : (plC (I 166) k (J, M) n).2.2 = k + m := by
        rw [hm, nI_add] at p3
        exact nI_inj (by omega) (by omega) p3
      have fm : ∀ z, 161 ≤ z → I1 z = I z := fun z hz => by rw [eI]; exact (plC_fr (by omega)).1.trans (hr.fr2 (by omega))
      have fmL : ∀ z, 161 ≤ z → L1 z = L z := fun z hz => by rw [eL]; exact (plC_fr (by omega)).2.trans (hr.2.2.1 z (by unfold recT; omega))
      have hB2 : RelB I1 L1 (plM (I 166) (I 162) (L 161) n).1 ((plM (I 166) (I 162) (L 161) n).2.1 3) (plC (I 166) k (J, M) n).2.2 := by
        rw [eI, eL]
        refine ⟨p1, by omega, ?_, ?_, ?_⟩
        · rw [plC_fr2 (by decide)]; exact hC'.1.2.2.1
        · rw [plC_fr2 (by decide)]; exact hC'.1.2.2.2.1
        · rw [plC_fr2 (by decide)]; exact hC'.1.2.2.2.2
      have hC2 := hC'.br hB2 (fun z h1 _ => by rw [eI]; exact (plC_fr (by omega)).1) (fun z h1 _ => by rw [eL]; exact (plC_fr (by omega)).2)
      refine ⟨_, rfl, CX.of (k_X9_play_ok (I := I1) (L := L1) l E _ _ _ _ _ _ _ kp n k m rfl rfl rfl rfl rfl rfl rfl (by rw [fm 161 (by decide)]; exact h8) hn80 (by rw [fm 161 (by decide)]; exact h2) hkp (by rw [fm 166 (by decide)]; exact t) (by rw [fm 162 (by decide)]; exact hds) (by rw [fm 166 (by decide)]; exact hm) c (by rw [fm 162 (by decide)]; exact hR.cmds)) ⟨rfl, rfl, Nat.le_of_ble_eq_true rfl, Nat.le_of_ble_eq_true rfl⟩ (fun v2 I2 L2 hh => ?_)⟩
      obtain ⟨e0, mx', lt', eL2, eI2, g2, g8⟩ := hh
      rw [fm 162 (by decide), fm 163 (by decide), fm 166 (by decide), fmL 161 (by decide)] at eI2
      rw [fm 162 (by decide), fm 166 (by decide), fmL 161 (by decide), fmL 164 (by decide)] at eL2
      exact ⟨e0, Rel.mk2 hC2 (fun z hz => by rw [eI2, up_ne (by omega), up_ne (by omega), up_ne (by omega), up_ne (by omega)]) (fun z hz => by rw [eL2, upL_ne (by omega), upL_ne (by omega)]) (fun z hz => by rw [eI2, up_eq]) (by rw [eL2, upL_eq]) (fun z hz => by rw [eI2, up_ne (by decide), up_ne (by decide), up_ne (by decide), up_eq]) (fun z hz => by rw [eL2, upL_ne (by decide), upL_eq]) (fun z hz => by rw [eI2, up_ne (by decide), up_ne (by decide), up_ne (by decide), up_ne (by decide), fm 166 (by decide)]) (by rw [eI2, up_ne (by decide), up_eq]; exact g2) (by rw [eI2, up_ne (by decide), up_eq]; exact g8)⟩
    · refine CX.of (k_X8_play_lim (I := I) (L := L) l E _ _ _ n k m rfl rfl rfl hxc hn80 hg t1 hsl hk hm1 (by omega) (by omega)) ⟨rfl, rfl, Nat.le_of_ble_eq_true rfl, Nat.le_of_ble_eq_true rfl⟩ (fun v I1 L1 hh => ?_)
      obtain ⟨rfl, rfl, rfl⟩ := hh
      refine ⟨_, rfl, CX.of (k_X9_play_lim (I := _) (L := _) l E _ _ _ _ n k m rfl rfl rfl rfl h8 hn80 t hds hm (by omega) (by omega)) ⟨rfl, rfl, Nat.le_of_ble_eq_true rfl, Nat.le_of_ble_eq_true rfl⟩ (fun v2 I2 L2 hh => ?_)⟩
      obtain ⟨rfl, mx', lt', rfl, eI, hm'⟩ := hh
      exact ⟨rfl, h'.txt2 eI hm'⟩
  · have t1 : ¬ fpG (I 160) n n 0 0 = -1 := fun q => t (fe.symm.trans q)
    refine CX.of (k_X8_play_np (I := I) (L := L) l E _ _ n rfl rfl hxc hn80 hg t1) ⟨rfl, rfl, Nat.le_of_ble_eq_true rfl, Nat.le_of_ble_eq_true rfl⟩ (fun v I1 L1 hh => ?_)
    obtain ⟨rfl, rfl, rfl⟩ := hh
    refine ⟨_, rfl, CX.of (k_X9_play_np (I := _) (L := _) l E _ _ _ n rfl rfl rfl h8 hn80 t) ⟨rfl, rfl, Nat.le_of_ble_eq_true rfl, Nat.le_of_ble_eq_true rfl⟩ (fun v2 I2 L2 hh => ?_)⟩
    obtain ⟨rfl, mx', lt', rfl, eI, hm'⟩ := hh
    exact ⟨rfl, h'.txt2 eI hm'⟩
