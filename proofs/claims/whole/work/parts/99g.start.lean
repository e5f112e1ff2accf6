theorem whole_start {p : Program} {e : Env} {s : State} {m : MethodId} {below : List Frame} {meth : Method} {c : Code} (l : Launch) (hflags : l.flags = flags0) {b L : Nat} {xs : Nat → Int32} (hL : L ≤ 2048) (C0 : lw_At p s m meth c b L xs) : W p l e room_1 s m #[Value.ref b] below meth c s.heap [] 0 0 (lw_Z below #[Value.ref b] s) (entryFrame m ([Value.ref b] : List Value).toArray 4) := by
  obtain ⟨hexec, hcode, hret, hml, hown, hts, hX, hbl, hlk, hgv⟩ := C0
  obtain ⟨E, hE, hz⟩ := e_start hts hgv
  have S : CallFix p m c code 4 s #[Value.ref b] wsL_law RL := ⟨hexec, hcode, hml, hown, fun w h => hts w (wsL_law_in w h)⟩
  have S2 : CallFix p m c code 4 s #[Value.ref b] lw_tbl RL := ⟨hexec, hcode, hml, hown, hts⟩
  have hl := lv_entry [Value.ref b] (n := 4) (Nat.le_of_ble_eq_true rfl)
  rw [lg_entry_eq]
  generalize hls : ((lg_sl [Value.ref b] ++ List.replicate (4 - (lg_sl [Value.ref b]).length) Slot.unset).toArray) = ls at hl
  clear hls
  have hl : lv_has ls 4 [(0, .ref b)] := hl
  have G : CG E (fun _ => 0) 0 (fun _ => .inr (0, [])) s s.heap [] := ⟨⟨fun k q hq => by simp [sw] at hq, fun i j p q hp => by simp [sw] at hp, fun k q hq => by simp [sw] at hq⟩, va_S.rf⟩
  refine c_new S2 hE G (C := RX8) (T := TX8) (N := 4) (ci := 8) (fs := [.null, .null, .null, .null]) tyX8 (by decide +kernel) tyX8_ok (by decide +kernel) (by decide +kernel) (by decide +kernel) rfl (fun j hj => by rcases (show j = 0 ∨ j = 1 ∨ j = 2 ∨ j = 3 by omega) with rfl | rfl | rfl | rfl <;> rfl) (Nat.le_of_ble_eq_true rfl) (Nat.le_of_ble_eq_true rfl) dL_law_0 (fun q1 ad1 H f1 _ G => ?_)
  refine lv_dup S.1 S.2.1 dL_law_3 rfl ?_
  refine c_call (As := []) (rest := [.ref q1]) S2 hE G (c_X8_init l E ad1 0 q1 _ f1 upw_eq) (cwI (bytes := cX8_init) (maxL := 1) 0 S.2.2.2.2 gL_law_X8_init rfl rfl rfl (S2.2.2.2.2 _ (by decide +kernel)) (S2.2.2.2.2 _ (by decide +kernel)) (S2.2.2.2.2 _ (by decide +kernel)) rfl (by decide +kernel) ⟨Nat.le_of_ble_eq_true rfl, Nat.le_of_ble_eq_true rfl⟩) rfl hl.1 rfl (Nat.le_of_ble_eq_true rfl) ⟨Nat.le_of_ble_eq_true rfl, Nat.le_of_ble_eq_true rfl⟩ dL_law_4 (fun ad2 w2 H locs g2 ok2 G => ?_)
  refine W.eq (g2 := F0 m 7 ls [.ref q1]) rfl ?_
  refine lv_astore_n (lv' := [(1, .ref q1), (0, .ref b)]) S.1 S.2.1 dL_law_7 rfl hl (by decide) rfl (fun ls hl => ?_)
  have G : CG E ad2 161 w2 s H locs := G
  refine c_new S2 hE G (C := RX9) (T := TX9) (N := 13) (ci := 9) (fs := [.null, .null, .int 0, .long 0, .null, .null, .long 0, .null, .int 0, .int 0, .int 0, .int 0, .null]) tyX9 (by decide +kernel) tyX9_ok (by decide +kernel) (by decide +kernel) (by decide +kernel) rfl (fun j hj => by rcases (show j = 0 ∨ j = 1 ∨ j = 2 ∨ j = 3 ∨ j = 4 ∨ j = 5 ∨ j = 6 ∨ j = 7 ∨ j = 8 ∨ j = 9 ∨ j = 10 ∨ j = 11 ∨ j = 12 by omega) with rfl | rfl | rfl | rfl | rfl | rfl | rfl | rfl | rfl | rfl | rfl | rfl | rfl <;> rfl) (Nat.le_of_ble_eq_true rfl) (Nat.le_of_ble_eq_true rfl) dL_law_8 (fun q3 ad3 H f3 g3 G => ?_)
  refine lv_dup S.1 S.2.1 dL_law_11 rfl ?_
  refine c_call (As := []) (rest := [.ref q3]) S2 hE G (c_X9_init l E ad3 161 q3 _ f3 upw_eq) (cwI (bytes := cX9_init) (maxL := 4) 0 S.2.2.2.2 gL_law_X9_init rfl rfl rfl (S2.2.2.2.2 _ (by decide +kernel)) (S2.2.2.2.2 _ (by decide +kernel)) (S2.2.2.2.2 _ (by decide +kernel)) rfl (by decide +kernel) ⟨Nat.le_of_ble_eq_true rfl, Nat.le_of_ble_eq_true rfl⟩) rfl hl.1 rfl (Nat.le_of_ble_eq_true rfl) ⟨Nat.le_of_ble_eq_true rfl, Nat.le_of_ble_eq_true rfl⟩ dL_law_12 (fun ad4 w4 H locs g4 ok4 G => ?_)
  refine W.eq (g2 := F0 m 15 ls [.ref q3]) rfl ?_
  refine lv_astore_n (lv' := [(2, .ref q3), (1, .ref q1), (0, .ref b)]) S.1 S.2.1 dL_law_15 rfl hl (by decide) rfl (fun ls hl => ?_)
  refine lv_iconst (v := (0 : Int32)) S.1 S.2.1 dL_law_16 (by decide) ?_
  refine lv_istore_n (lv' := [(3, .int (0 : Int32)), (2, .ref q3), (1, .ref q1), (0, .ref b)]) S.1 S.2.1 dL_law_17 rfl hl (by decide) rfl (fun ls hl => ?_)
  have e1 : ad4 0 = q1 := (g4 0 (by decide)).trans ((g3 0 (by decide)).trans ((g2 0 (by decide)).trans f1))
  have e3 : ad4 161 = q3 := (g4 161 (by decide)).trans f3
  have hT : TopOk E ad4 w4 0 := (ok2.2.ad (fun k hk => (g4 k (by omega)).trans (g3 k (by omega)))).w (fun k h1 h2 => (ok4.1 k (by omega)).trans (upw_ne (by omega)))
  have hM : ModOk d0 E ad4 w4 161 := ok4.2
  have G : CG E ad4 168 w4 s H locs := G
  have hbA : ¬ e_A (EA E ad4) b := by
    show ¬ E.2.2.1 ≤ b
    rw [hz]
    exact Nat.not_le.mpr hbl
  have hG : GS (EA E ad4) I0 L0 s H locs := ⟨ga_cw G.1 hT hM, G.2⟩
  subst e1 e3
  exact law_loop (E := EA E ad4) ⟨S, hE.1, hX, hbl, hbA, hL⟩ hret hlk (Nat.le_of_eq hz.symm) ⟨Nat.le_of_ble_eq_true rfl, Nat.le_of_ble_eq_true rfl⟩ 2060 0 rfl (by omega) I0 L0 H locs ls hG rel0 hl
