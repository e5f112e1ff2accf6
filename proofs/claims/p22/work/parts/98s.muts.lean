/-! the calls that change the class, between invariants -/
theorem k_cmd (l : Launch) (E : Ev) {I : SI} {L : SL} {D k : Nat} {M : Nat → Nat} (n c : Nat) (hn : n < 4) (hc : c < 3) (h : Inv I D k M) (hk : k ≤ 2000) : CS l yX8_command wsX8_command ({ frames := 5, cells := 0, slots := 0, locals := 102 }) E [.ref (E.2.2.2 0), .int (nI n), .int (nI c)] I L (fun vv I' L' => vv = some (.int (I (lgc n) 0)) ∧ Inv I' D k M ∧ I' (lgc n) 0 = nI c) := by
  obtain ⟨h1, h2, h3, h4, o, kp, h5, h6⟩ := h
  have ht : IN2 (nI c) := inR (n := c) (a := 0) (b := 2) (Nat.zero_le _) (by omega) (by decide)
  have key : ∀ (I' : SI) (L' : SL), (∃ I1 L1, RecP I L I1 L1 o kp ∧ I' = (up I1 (lgc n) (upd (I (lgc n)) 0 (nI c))) ∧ L' = L1) → Inv I' D k M ∧ I' (lgc n) 0 = nI c := by
    intro I' L' hq
    obtain ⟨I1, L1, hr, rfl, -⟩ := hq
    have hv := lgc_v hn
    have e : I1 (lgc n) = I (lgc n) := hr.fr (by omega) (by omega)
    have g := (Inv.rec h1 h2 h3 h4 h5 hk hr).cmd hn hc
    rw [e] at g
    refine ⟨g, ?_⟩
    rw [up_eq, upd_eq]
  rcases (show n = 0 ∨ n = 1 ∨ n = 2 ∨ n = 3 by omega) with rfl | rfl | rfl | rfl
  · exact CS.mono (k_X8_command_ok_0 l E (nI c) _ _ o kp rfl rfl h5.1 h5.2.1 h5.2.2.1 h5.2.2.2.1 h1.isbB ht) (fun v I' L' q => ⟨q.1, key I' L' q.2⟩)
  · exact CS.mono (k_X8_command_ok_1 l E (nI c) _ _ o kp rfl rfl h5.1 h5.2.1 h5.2.2.1 h5.2.2.2.1 h1.isbB ht) (fun v I' L' q => ⟨q.1, key I' L' q.2⟩)
  · exact CS.mono (k_X8_command_ok_2 l E (nI c) _ _ o kp rfl rfl h5.1 h5.2.1 h5.2.2.1 h5.2.2.2.1 h1.isbB ht) (fun v I' L' q => ⟨q.1, key I' L' q.2⟩)
  · exact CS.mono (k_X8_command_ok_3 l E (nI c) _ _ o kp rfl rfl h5.1 h5.2.1 h5.2.2.1 h5.2.2.2.1 h1.isbB ht) (fun v I' L' q => ⟨q.1, key I' L' q.2⟩)
theorem k_clr (l : Launch) (E : Ev) {I : SI} {L : SL} {D k : Nat} {M : Nat → Nat} (j f : Nat) (hj : j < 2) (hf : f < 3) (h : Inv I D k M) (hk : k ≤ 2000) : CS l yX8_clear wsX8_clear ({ frames := 5, cells := 0, slots := 0, locals := 110 }) E [.ref (E.2.2.2 0), .int (nI j), .int (nI f)] I L (fun vv I' L' => ∃ x : Int32, vv = some (.int x) ∧ Inv I' D k M ∧ ((x = -2000000002 ∧ I' (ftn j) 3 = I (ftn j) 3) ∨ (¬ x = -2000000002 ∧ x = I (ftn j) 3 - 1))) := by
  have h0 := h
  obtain ⟨h1, h2, h3, h4, o, kp, h5, h6⟩ := h
  obtain ⟨c, hc3, hc⟩ := (h1.ft j hj).num
  have hx : ¬ I (ftn j) 3 - 1 = (-2000000002 : Int32) := by
    intro q
    have q := congrArg Int32.toInt q
    have a1 : (nI c).toInt = c := nI_toInt (by omega)
    have a2 : (1 : Int32).toInt = 1 := by decide
    have a3 : (-2000000002 : Int32).toInt = -2000000002 := by decide
    rw [hc, i32_sub (by omega) (by omega)] at q
    omega
  have ok : ¬ I (ftt j) f = 0 → ∀ (v : Option Value) (I' : SI) (L' : SL), (v = some (.int (I (ftn j) 3 - 1)) ∧ ∃ I1 L1, RecP I L I1 L1 o kp ∧ I' = (up (up I1 (ftn j) (upd (I (ftn j)) 3 (I (ftn j) 3 - 1))) (ftt j) (upd (I (ftt j)) f 0)) ∧ L' = L1) → ∃ x : Int32, v = some (.int x) ∧ Inv I' D k M ∧ ((x = -2000000002 ∧ I' (ftn j) 3 = I (ftn j) 3) ∨ (¬ x = -2000000002 ∧ x = I (ftn j) 3 - 1)) := by
    intro ht v I' L' hq
    obtain ⟨hv, I1, L1, hr, rfl, -⟩ := hq
    have a := ftn_v hj
    have b := ftt_v hj
    have e1 : I1 (ftn j) = I (ftn j) := hr.fr (by omega) (by omega)
    have e2 : I1 (ftt j) = I (ftt j) := hr.fr (by omega) (by omega)
    have g := (Inv.rec h1 h2 h3 h4 h5 hk hr).clr hj hf (by rw [e2]; exact ht)
    rw [e1, e2] at g
    exact ⟨_, hv, g, Or.inr ⟨hx, rfl⟩⟩
  have np : ∀ (v : Option Value) (I' : SI) (L' : SL), (v = some (.int (-2000000002 : Int32)) ∧ I' = I ∧ L' = L) → ∃ x : Int32, v = some (.int x) ∧ Inv I' D k M ∧ ((x = -2000000002 ∧ I' (ftn j) 3 = I (ftn j) 3) ∨ (¬ x = -2000000002 ∧ x = I (ftn j) 3 - 1)) := by
    intro v I' L' hq
    obtain ⟨hv, rfl, -⟩ := hq
    exact ⟨_, hv, h0, Or.inl ⟨rfl, rfl⟩⟩
  rcases (show j = 0 ∨ j = 1 by omega) with rfl | rfl <;> rcases (show f = 0 ∨ f = 1 ∨ f = 2 by omega) with rfl | rfl | rfl
  · rcases Classical.em (¬ I 8 0 = 0 ∧ plcF (I 8) (I 9) 0 = 0 ∧ ¬ I 21 2 ≤ absI (I 2 4)) with hq | hq
    · exact CS.mono (k_X8_clear_ok_0_0 l E _ _ _ _ _ _ o kp rfl rfl rfl rfl rfl rfl h5.1 h5.2.1 h5.2.2.1 h5.2.2.2.1 h1.isbB hq) (ok hq.1)
    · exact CS.mono (k_X8_clear_np_0_0 l E _ _ _ _ _ rfl rfl rfl rfl rfl hq) np
  · rcases Classical.em (¬ I 8 1 = 0 ∧ plcF (I 8) (I 9) 1 = 0) with hq | hq
    · exact CS.mono (k_X8_clear_ok_0_1 l E _ _ _ _ _ _ o kp rfl rfl rfl rfl rfl rfl h5.1 h5.2.1 h5.2.2.1 h5.2.2.2.1 h1.isbB hq) (ok hq.1)
    · exact CS.mono (k_X8_clear_np_0_1 l E _ _ _ _ _ rfl rfl rfl rfl rfl hq) np
  · rcases Classical.em (¬ I 8 2 = 0 ∧ plcF (I 8) (I 9) 2 = 0 ∧ ¬ I 21 4 / 2 < I 2 5) with hq | hq
    · exact CS.mono (k_X8_clear_ok_0_2 l E _ _ _ _ _ _ o kp rfl rfl rfl rfl rfl rfl h5.1 h5.2.1 h5.2.2.1 h5.2.2.2.1 h1.isbB hq) (ok hq.1)
    · exact CS.mono (k_X8_clear_np_0_2 l E _ _ _ _ _ rfl rfl rfl rfl rfl hq) np
  · rcases Classical.em (¬ I 17 0 = 0 ∧ plcF (I 17) (I 18) 0 = 0 ∧ ¬ I 21 2 ≤ absI (I 11 4)) with hq | hq
    · exact CS.mono (k_X8_clear_ok_1_0 l E _ _ _ _ _ _ o kp rfl rfl rfl rfl rfl rfl h5.1 h5.2.1 h5.2.2.1 h5.2.2.2.1 h1.isbB hq) (ok hq.1)
    · exact CS.mono (k_X8_clear_np_1_0 l E _ _ _ _ _ rfl rfl rfl rfl rfl hq) np
  · rcases Classical.em (¬ I 17 1 = 0 ∧ plcF (I 17) (I 18) 1 = 0) with hq | hq
    · exact CS.mono (k_X8_clear_ok_1_1 l E _ _ _ _ _ _ o kp rfl rfl rfl rfl rfl rfl h5.1 h5.2.1 h5.2.2.1 h5.2.2.2.1 h1.isbB hq) (ok hq.1)
    · exact CS.mono (k_X8_clear_np_1_1 l E _ _ _ _ _ rfl rfl rfl rfl rfl hq) np
  · rcases Classical.em (¬ I 17 2 = 0 ∧ plcF (I 17) (I 18) 2 = 0 ∧ ¬ I 21 4 / 2 < I 11 5) with hq | hq
    · exact CS.mono (k_X8_clear_ok_1_2 l E _ _ _ _ _ _ o kp rfl rfl rfl rfl rfl rfl h5.1 h5.2.1 h5.2.2.1 h5.2.2.2.1 h1.isbB hq) (ok hq.1)
    · exact CS.mono (k_X8_clear_np_1_2 l E _ _ _ _ _ rfl rfl rfl rfl rfl hq) np
theorem k_gom (l : Launch) (E : Ev) {I : SI} {L : SL} {D k : Nat} {M : Nat → Nat} (m : Nat) (h : Inv I D k M) (hD : D < 2 ^ 28) (h1m : 1 ≤ m) (h2m : m ≤ 1000) (hk : k + m ≤ 2000) : CS l yX8_go wsX8_go ({ frames := 6, cells := 0, slots := 0, locals := 135 }) E [.ref (E.2.2.2 0), .int (nI m)] I L (fun vv I' L' => ∃ r, r ≤ 6000 ∧ vv = some (.int (nI r)) ∧ Inv I' D (k + m) M ∧ I' 7 3 + I' 16 3 = I 7 3 + I 16 3 + nI r ∧ AgB I' 1 (brIt 1 k m (I, L)).1 1) := by
  obtain ⟨h1, h2, h3, h4, o, kp, h5, h6⟩ := h
  refine CS.mono (k_X8_go_ok l E m _ _ o kp k rfl rfl h5.1 h5.2.1 h5.2.2.1 h5.2.2.2.1 h1.isbB h1.1 h1m h2m (by omega)) (fun v I' L' hq => ?_)
  obtain ⟨I1, L1, hr, hv, rfl, -⟩ := hq
  obtain ⟨r, hr6, er⟩ := @brSum_in 1 k m (I1, L1)
  have g := Inv.rec h1 h2 h3 h4 h5 (by omega) hr
  have e : ∀ z, z < 27 → I1 z = I z := fun z hz => hr.fr (by omega) (by omega)
  refine ⟨r, by omega, by rw [hv, er], g.go hD m (by omega), ?_, ?_⟩
  · have q : (brIt 1 k m (I1, L1)).1 7 3 + (brIt 1 k m (I1, L1)).1 16 3 = I1 7 3 + I1 16 3 + brSum 1 k m (I1, L1) := brSum_num (B := 1)
    rw [q, er, e 7 (by decide), e 16 (by decide)]
  · exact (ag_eq (fun z _ hz => e z (by omega))).it m
theorem k_ifg (l : Launch) (E : Ev) {I : SI} {L : SL} {D k : Nat} {M : Nat → Nat} (j m : Nat) (hj : j < 2) (h : Inv I D k M) (hk : k ≤ 2000) (h1m : 1 ≤ m) (h2m : m ≤ 1000) : CS l yX8_ifGo wsX8_ifGo ({ frames := 6, cells := 0, slots := 0, locals := 135 }) E [.ref (E.2.2.2 0), .int (nI j), .int (nI m)] I L (fun vv I' L' => vv = some (.int ((brIt 1 k m (I, L)).1 (ldb j) 4)) ∧ ∀ z, z < 27 ∨ 53 ≤ z → I' z = I z) := by
  obtain ⟨h1, h2, h3, h4, o, kp, h5, h6⟩ := h
  have fr : ∀ (I2 : SI) (L2 : SL), (∀ z, z < 27 ∨ 53 ≤ z → I2 z = I z) → ∀ z, z < 27 ∨ 53 ≤ z → (brIt 27 k m (I2, L2)).1 z = I z := fun I2 L2 e z hz => (brIt_ne (by omega)).trans (e z hz)
  rcases (show j = 0 ∨ j = 1 by omega) with rfl | rfl
  · refine CS.mono (k_X8_ifGo_ok_0 l E m k h1.1 h1.isbB (by omega) h1m h2m) (fun v I' L' hq => ?_)
    obtain ⟨I2, L2, ⟨hc, e, -⟩, hv, rfl, -⟩ := hq
    have a := (AgB.it (L' := L2) (L := L) (k' := k) (k := k) (ag_cp hc) m).2.1.1 4 (by decide) (by decide)
    exact ⟨by rw [hv]; exact congrArg (fun q : Int32 => some (Value.int q)) a, fr I2 L2 e⟩
  · refine CS.mono (k_X8_ifGo_ok_1 l E m k h1.1 h1.isbB (by omega) h1m h2m) (fun v I' L' hq => ?_)
    obtain ⟨I2, L2, ⟨hc, e, -⟩, hv, rfl, -⟩ := hq
    have a := (AgB.it (L' := L2) (L := L) (k' := k) (k := k) (ag_cp hc) m).2.2.1 4 (by decide) (by decide)
    exact ⟨by rw [hv]; exact congrArg (fun q : Int32 => some (Value.int q)) a, fr I2 L2 e⟩
theorem k_und (l : Launch) (E : Ev) {I : SI} {L : SL} (o kq : Nat) (h : HisI I o (kq + 1)) : CS l yX8_undo wsX8_undo ({ frames := 5, cells := 0, slots := 0, locals := 102 }) E [.ref (E.2.2.2 0)] I L (fun vv I' L' => vv = some (.int (nI kq)) ∧ ∃ k', k' ≤ 2000 ∧ BlkI I' 1 k') := by
  obtain ⟨h1, h2, h3, h4, h5⟩ := h
  obtain ⟨k', g1, g2⟩ := h5 ((o + kq) % 4) (by omega)
  have g2 : BlkI I (recT o kq) k' := g2
  refine CS.mono (k_X8_undo_ok l E _ o kq rfl h1 h2 h3 (by omega) g2.isbB) (fun v I' L' hq => ?_)
  exact ⟨hq.1, k', g1, g2.cp hq.2.1⟩
/-- while the law sets things: no slot has gone by; p: a state is kept -/
def StI (I : SI) (p : Nat) : Prop := BlkI I 1 0 ∧ I 20 0 = 0 ∧ I 5 0 = 6 ∧ I 14 0 = 6 ∧ ∃ o kp, HisI I o kp ∧ p ≤ kp
theorem StI.up {I I1 : SI} {L L1 : SL} {o kp c : Nat} {r : Nat → Int32} (h1 : BlkI I 1 0) (h2 : I 20 0 = 0) (h3 : I 5 0 = 6) (h4 : I 14 0 = 6) (h5 : HisI I o kp) (hr : RecP I L I1 L1 o kp) (hc : c < 27) (c5 : c ≠ 5) (c14 : c ≠ 14) (c20 : c ≠ 20) (hB : BlkI (up I1 c r) 1 0) : StI (up I1 c r) 1 ∧ (up I1 c r) c = r ∧ ∀ z, z < 27 → z ≠ c → (up I1 c r) z = I z := by
  have e : ∀ z, z < 27 → I1 z = I z := fun z hz => hr.fr (by omega) (by omega)
  obtain ⟨o', kp', g1, g2⟩ := h5.rec h1 (by decide) hr
  refine ⟨⟨hB, ?_, ?_, ?_, o', kp', g1.fr (fun z hz => up_ne (by omega)), g2⟩, up_eq, fun z hz hne => (up_ne hne).trans (e z hz)⟩
  · rw [up_ne (Ne.symm c20), e 20 (by decide)]
    exact h2
  · rw [up_ne (Ne.symm c5), e 5 (by decide)]
    exact h3
  · rw [up_ne (Ne.symm c14), e 14 (by decide)]
    exact h4
theorem StI.blk {I I1 : SI} {L L1 : SL} {o kp : Nat} (h1 : BlkI I 1 0) (hr : RecP I L I1 L1 o kp) : BlkI I1 1 0 := h1.fr (fun z hz => hr.fr (by omega) (by omega))
theorem k_stset (l : Launch) (E : Ev) {I : SI} {L : SL} {p : Nat} (q v : Nat) (hq : q < 6) (ht : TK6 (nI q) (nI v)) (h : StI I p) : CS l yX8_set wsX8_set ({ frames := 5, cells := 0, slots := 0, locals := 102 }) E [.ref (E.2.2.2 0), .int (nI q), .int (nI v)] I L (fun vv I' L' => vv = some (.int (I 21 q)) ∧ StI I' 1 ∧ I' 21 = upd (I 21) q (nI v) ∧ ∀ z, z < 27 → z ≠ 21 → I' z = I z) := by
  obtain ⟨h1, h2, h3, h4, o, kp, h5, -⟩ := h
  refine CS.mono (k_X8_set_ok l E q (nI v) _ _ _ o kp rfl rfl rfl h5.1 h5.2.1 h5.2.2.1 h5.2.2.2.1 h1.isbB h2 hq ht) (fun w I' L' hw => ?_)
  obtain ⟨hv, I1, L1, hr, rfl, -⟩ := hw
  exact ⟨hv, StI.up h1 h2 h3 h4 h5 hr (by decide) (by decide) (by decide) (by decide) ((StI.blk h1 hr).fr (fun z hz => up_ne (by omega)))⟩
theorem k_stld (l : Launch) (E : Ev) {I : SI} {L : SL} {p : Nat} (j q v : Nat) (hj : j < 2) (hq : q < 4) (ht : TK4 (nI q) (nI v)) (h : StI I p) : CS l yX8_setLoad wsX8_setLoad ({ frames := 5, cells := 0, slots := 0, locals := 102 }) E [.ref (E.2.2.2 0), .int (nI j), .int (nI q), .int (nI v)] I L (fun vv I' L' => vv = some (.int (I (dvc j) q)) ∧ StI I' 1 ∧ I' (dvc j) = upd (I (dvc j)) q (nI v) ∧ ∀ z, z < 27 → z ≠ dvc j → I' z = I z) := by
  obtain ⟨h1, h2, h3, h4, o, kp, h5, -⟩ := h
  rcases (show j = 0 ∨ j = 1 by omega) with rfl | rfl
  · refine CS.mono (k_X8_setLoad_ok_0 l E q (nI v) _ _ _ o kp rfl rfl rfl h5.1 h5.2.1 h5.2.2.1 h5.2.2.2.1 h1.isbB h3 hq ht) (fun w I' L' hw => ?_)
    obtain ⟨hv, I1, L1, hr, rfl, -⟩ := hw
    exact ⟨hv, StI.up h1 h2 h3 h4 h5 hr (by decide) (by decide) (by decide) (by decide) ((StI.blk h1 hr).fr (fun z hz => up_ne (by omega)))⟩
  · refine CS.mono (k_X8_setLoad_ok_1 l E q (nI v) _ _ _ o kp rfl rfl rfl h5.1 h5.2.1 h5.2.2.1 h5.2.2.2.1 h1.isbB h4 hq ht) (fun w I' L' hw => ?_)
    obtain ⟨hv, I1, L1, hr, rfl, -⟩ := hw
    exact ⟨hv, StI.up h1 h2 h3 h4 h5 hr (by decide) (by decide) (by decide) (by decide) ((StI.blk h1 hr).fr (fun z hz => up_ne (by omega)))⟩
theorem LoI.chop {b : Nat → Int32} (h : LoI b) : LoI (chopF b 1) := by
  obtain ⟨-, -, -, h5, h4, h4'⟩ := h
  unfold chopF
  refine ⟨?_, ?_, ?_, h5, h4, h4'⟩
  · exact Or.inr rfl
  · exact isb_ite
  · exact fun _ => rfl
theorem k_stch (l : Launch) (E : Ev) {I : SI} {L : SL} {p : Nat} (j : Nat) (hj : j < 2) (h : StI I p) : CS l yX8_chop wsX8_chop ({ frames := 5, cells := 0, slots := 0, locals := 102 }) E [.ref (E.2.2.2 0), .int (nI j), .int (1 : Int32)] I L (fun vv I' L' => vv = some (.int (I (ldb j) 6)) ∧ StI I' 1 ∧ I' (ldb j) = chopF (I (ldb j)) 1 ∧ ∀ z, z < 27 → z ≠ ldb j → I' z = I z) := by
  obtain ⟨h1, h2, h3, h4, o, kp, h5, -⟩ := h
  have hlo := h1.lo
  rcases (show j = 0 ∨ j = 1 by omega) with rfl | rfl
  · refine CS.mono (k_X8_chop_ok_0_1 l E _ _ o kp rfl rfl h5.1 h5.2.1 h5.2.2.1 h5.2.2.2.1 h1.isbB (hlo 0 (by decide)).1) (fun w I' L' hw => ?_)
    obtain ⟨hv, I1, L1, hr, rfl, -⟩ := hw
    have g := StI.blk h1 hr
    obtain ⟨g0, ⟨p1, q1, b1, f1⟩, ⟨p2, q2, b2, f2⟩⟩ := g
    exact ⟨hv, StI.up h1 h2 h3 h4 h5 hr (by decide) (by decide) (by decide) (by decide) ⟨g0, ⟨p1, q1, (hlo 0 (by decide)).chop, f1⟩, ⟨p2, q2, b2, f2⟩⟩⟩
  · refine CS.mono (k_X8_chop_ok_1_1 l E _ _ o kp rfl rfl h5.1 h5.2.1 h5.2.2.1 h5.2.2.2.1 h1.isbB (hlo 1 (by decide)).1) (fun w I' L' hw => ?_)
    obtain ⟨hv, I1, L1, hr, rfl, -⟩ := hw
    have g := StI.blk h1 hr
    obtain ⟨g0, ⟨p1, q1, b1, f1⟩, ⟨p2, q2, b2, f2⟩⟩ := g
    exact ⟨hv, StI.up h1 h2 h3 h4 h5 hr (by decide) (by decide) (by decide) (by decide) ⟨g0, ⟨p1, q1, b1, f1⟩, ⟨p2, q2, (hlo 1 (by decide)).chop, f2⟩⟩⟩
theorem RingI.zero {I : SI} {D : Nat} {M : Nat → Nat} (h : BlkI I 1 0) : RingI I 0 D M := by
  refine ⟨fun _ _ => 0, fun _ _ => 0, fun n hn => ?_, fun j hj => ⟨fun s hs => absurd hs (by omega), fun s hs => absurd hs (by omega), fun q => absurd q (by omega)⟩, fun s hs => absurd hs (by omega)⟩
  obtain ⟨-, -, r2, r3, r4, r5, r6, e2, -, -, -, -, -, -, hr, -, -⟩ := h.leg n hn
  refine ⟨fun s => Nat.zero_le _, fun i j _ hj => absurd hj (by omega), fun q => absurd q (by omega), ⟨0, Nat.le_refl _, ?_, fun s hs => absurd hs (by omega), fun q => absurd q (by omega)⟩, fun _ s hs => absurd hs (by omega)⟩
  rw [e2, show r2 = 0 by omega]
theorem Inv.start {I : SI} {D : Nat} {M : Nat → Nat} (h : StI I 1) (hs : I 21 0 = nI D) (hd : DvI I M) : Inv I D 0 M := ⟨h.1, RingI.zero h.1, hd, hs, h.2.2.2.2⟩
