/-! from the law's entry: the object is made, set, and the loop is run -/
set_option maxRecDepth 100000 in
set_option maxHeartbeats 4000000 in
theorem whole_start {p : Program} {e : Env} {s : State} {m : MethodId} {below : List Frame} {meth : Method} {c : Code} (l : Launch) (hflags : l.flags = flags0) {b L : Nat} {xs : Nat → Int32} (hL : L ≤ 260) (C0 : lw_At p s m meth c b L xs) : W p l e room_1 s m #[Value.ref b] below meth c s.heap [] 0 0 (lw_Z below #[Value.ref b] s) (entryFrame m ([Value.ref b] : List Value).toArray 21) := by
  obtain ⟨hexec, hcode, hret, hml, hown, hts, hX, hbl, hlk, hgv⟩ := C0
  obtain ⟨E, hE, hz⟩ := e_start hts hgv
  have S : CallFix p m c code 21 s #[Value.ref b] wsL_law RL := ⟨hexec, hcode, hml, hown, fun w h => hts w (wsL_law_in w h)⟩
  have S2 : CallFix p m c code 21 s #[Value.ref b] lw_tbl RL := ⟨hexec, hcode, hml, hown, hts⟩
  have hl := lv_entry [Value.ref b] (n := 21) (Nat.le_of_ble_eq_true rfl)
  rw [lg_entry_eq]
  generalize hls : ((lg_sl [Value.ref b] ++ List.replicate (21 - (lg_sl [Value.ref b]).length) Slot.unset).toArray) = ls at hl
  clear hls
  have hl : lv_has ls 21 [(0, .ref b)] := hl
  have G : CG E (fun _ => 0) 0 (fun _ => .inr (0, [])) s s.heap [] := ⟨⟨fun k q hq => by simp [sw] at hq, fun i j p q hp => by simp [sw] at hp, fun k q hq => by simp [sw] at hq⟩, va_S.rf⟩
  refine c_new S2 hE G (C := RX8) (T := TX8) (N := 4) (ci := 8) (fs := [.null, .null, .null, .null]) tyX8 (by decide +kernel) tyX8_ok (by decide +kernel) (by decide +kernel) (by decide +kernel) rfl (fun j hj => by rcases (show j = 0 ∨ j = 1 ∨ j = 2 ∨ j = 3 by omega) with rfl | rfl | rfl | rfl <;> rfl) (Nat.le_of_ble_eq_true rfl) (Nat.le_of_ble_eq_true rfl) dL_law_0 (fun q1 ad1 H f1 _ G => ?_)
  refine lv_dup S.1 S.2.1 dL_law_3 rfl ?_
  refine c_call (As := []) (rest := [.ref q1]) S2 hE G (c_X8_init l E ad1 0 q1 _ f1 upw_eq) (cwI (bytes := cX8_init) (maxL := 1) 0 S.2.2.2.2 gL_law_X8_init rfl rfl rfl (S2.2.2.2.2 _ (by decide +kernel)) (S2.2.2.2.2 _ (by decide +kernel)) (S2.2.2.2.2 _ (by decide +kernel)) rfl (by decide +kernel) ⟨Nat.le_of_ble_eq_true rfl, Nat.le_of_ble_eq_true rfl⟩) rfl hl.1 rfl (Nat.le_of_ble_eq_true rfl) ⟨Nat.le_of_ble_eq_true rfl, Nat.le_of_ble_eq_true rfl⟩ dL_law_4 (fun ad2 w2 H locs g2 ok2 G => ?_)
  refine W.eq (g2 := F0 m 7 ls [.ref q1]) rfl ?_
  refine lv_astore_n (lv' := [(1, .ref q1), (0, .ref b)]) S.1 S.2.1 dL_law_7 rfl hl (by decide) rfl (fun ls hl => ?_)
  have G : CG E ad2 161 w2 s H locs := G
  have e1 : ad2 0 = q1 := (g2 0 (by decide)).trans f1
  have hbA : ¬ e_A (EA E ad2) b := by
    show ¬ E.2.2.1 ≤ b
    rw [hz]
    exact Nat.not_le.mpr hbl
  have hG : GS (EA E ad2) I0 L0 s H locs := ⟨ga_cw G.1 ok2.2, G.2⟩
  subst e1
  have hXE : FX (EA E ad2) s := hE.1
  have hx : ScrAt (EA E ad2) b L xs s := ⟨hX, hbl, hbA⟩
  have hl : lv_has ls 21 [(1, .ref ((EA E ad2).2.2.2 0)), (0, .ref b)] := hl
  have hf : (0 + 1 + 160 : Nat) ≤ room_1.cells ∧ (0 + 4 + 1511 : Nat) ≤ room_1.slots := ⟨Nat.le_of_ble_eq_true rfl, Nat.le_of_ble_eq_true rfl⟩
  have fin : ∀ (I1 : SI) (L1 : SL) (H1 : Heap) (locs1 : List Loc) (ls1 : Array Slot), GS (EA E ad2) I1 L1 s H1 locs1 → W p l e room_1 s m #[Value.ref b] below meth c H1 locs1 (0 + 1 + 160) (0 + 4 + 1511) (lw_Z below #[Value.ref b] s) (F0 m 637 ls1 [.int (1 : Int32)]) := by
    intro I1 L1 H1 locs1 ls1 G1
    refine va_forget (fun q hq => Nat.le_trans (Nat.le_of_eq hz.symm) (G1.2.2.2 q hq)) ?_
    refine W.widen hf.1 hf.2 ?_
    exact lw_ret S.1 S.2.1 hret hlk dL_law_637
  obtain ⟨r00, r02, r04, r03⟩ := row0
  refine lw_set (E := EA E ad2) S hXE hx hL hf hG hl st0I r00 r02 r04 r03 (fun I1 L1 D hD hS1 e21 f1' H locs ls G hl => ?_)
  have q0 := dv0r 0 (by decide)
  have q1' := dv0r 1 (by decide)
  refine lw_ld (E := EA E ad2) (j := 0) S hXE hx hL hf G hl (by decide) hS1 ((congrFun (f1' 6 (by decide) (by decide)) 0).trans q0.1) ((congrFun (f1' 6 (by decide) (by decide)) 2).trans q0.2.2.1) ((congrFun (f1' 2 (by decide) (by decide)) 6).trans q0.2.2.2) (fun I2 L2 s0 hs0 hS2 e20 e21' f2' H locs ls G hl => ?_)
  refine lw_ld (E := EA E ad2) (j := 1) S hXE hx hL hf G hl (by decide) hS2 ((congrFun ((f2' 15 (by decide) (by decide) (by decide)).trans (f1' 15 (by decide) (by decide))) 0).trans q1'.1) ((congrFun ((f2' 15 (by decide) (by decide) (by decide)).trans (f1' 15 (by decide) (by decide))) 2).trans q1'.2.2.1) ((congrFun ((f2' 11 (by decide) (by decide) (by decide)).trans (f1' 11 (by decide) (by decide))) 6).trans q1'.2.2.2) (fun I3 L3 t0 ht0 hS3 e30 e31 f3' H locs ls G hl => ?_)
  have hs : I3 21 0 = nI D := by
    rw [f3' 21 (by decide) (by decide) (by decide), f2' 21 (by decide) (by decide) (by decide)]
    exact e21
  have d1 : I1 6 1 = nI 10 := (congrFun (f1' 6 (by decide) (by decide)) 1).trans q0.2.1
  have d2 : I2 15 1 = nI 10 := (congrFun ((f2' 15 (by decide) (by decide) (by decide)).trans (f1' 15 (by decide) (by decide))) 1).trans q1'.2.1
  have hdv : DvI I3 (fun j => if j = 0 then s0 + 10 else t0 + 10) := by
    refine n2 ⟨s0, 10, ?_, ?_, hs0, by decide, rfl⟩ ⟨t0, 10, e30, e31.trans d2, ht0, by decide, rfl⟩
    · exact (congrFun (f3' 6 (by decide) (by decide) (by decide)) 0).trans e20
    · exact (congrFun (f3' 6 (by decide) (by decide) (by decide)) 1).trans (e21'.trans d1)
  have hInv := Inv.start hS3 hs hdv
  refine lw_ldx S hXE hx hL hf G hl (fun H locs ls G hl => ?_)
  exact law_loop (E := EA E ad2) S hXE hx hL hf (by omega) fin 40 0 rfl 0 I3 L3 H locs ls hInv (by omega) G hl
