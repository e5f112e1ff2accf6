theorem in_lt19 {x : Int32} (h : ¬ x < 0 ∧ ¬ nI 19 ≤ x) : ∃ k, k < 19 ∧ x = nI k := i32_in (n := 19) h.1 h.2 (by decide)
set_option maxRecDepth 100000 in
set_option maxHeartbeats 4000000 in
theorem law_loop {p : Program} {l : Launch} {e : Env} {s : State} {m : MethodId} {below : List Frame} {meth : Method} {c : Code} {b Lx : Nat} {xs : Nat → Int32} {E : Ev} (hLW : LW p s m meth c b Lx xs E) (hr : meth.sig.returnType = ret) (hlocks : meth.locks = false) (hz : s.heap.size ≤ E.2.2.1) {cells slots : Nat} (hf : cells ≤ 600000 ∧ slots ≤ 7302250) : ∀ (r a : Nat), a + r = 2060 → a ≤ Lx + 4 → ∀ (I : SI) (L : SL) (H : Heap) (locs : List Loc) (ls : Array Slot), GS E I L s H locs → Rel I L → lv_has ls 4 [(3, .int (nI a)), (2, .ref (E.2.2.2 161)), (1, .ref (E.2.2.2 0)), (0, .ref b)] → W p l e room_1 s m #[Value.ref b] below meth c H locs cells slots (lw_Z below #[Value.ref b] s) (F0 m 18 ls []) := by
  have hLW' := hLW
  obtain ⟨S, hX, hXs, hbl, hbA, hL2⟩ := hLW
  have S : CallFix p m c code 4 s #[Value.ref b] wsL_law RL := S
  intro r
  induction r using Nat.strongRecOn with
  | ind r ih =>
    intro a hr1 ha I L H locs ls G hRel hl
    refine lv_iload_n S.1 S.2.1 dL_law_18 rfl (lv_at hl 0 rfl) ?_
    refine lv_aload_n S.1 S.2.1 dL_law_19 rfl (lv_at hl 3 rfl) ?_
    refine va_slen S.1 S.2.1 hXs hbl hbA G.2 dL_law_20 ?_
    refine lv_iconst (v := (4 : Int32)) S.1 S.2.1 dL_law_21 (by decide) ?_
    refine s_isub (v := nI Lx - 4) S dL_law_22 rfl ?_
    have e1 : (nI Lx - 4).toInt = (Lx : Int) - 4 := by
      have e4 : (4 : Int32).toInt = 4 := by decide
      rw [i32_sub (by rw [nI_toInt (by omega), e4]; omega) (by rw [nI_toInt (by omega), e4]; omega), nI_toInt (by omega), e4]
    refine lv_icmp_gt (tgt := 648) S.1 S.2.1 dL_law_23 (by decide) (fun _ => ?_) (fun hle => ?_)
    · refine lv_iconst (v := (1 : Int32)) S.1 S.2.1 dL_law_648 (by decide) ?_
      refine va_forget (fun q hq => Nat.le_trans hz (G.2.2.2 q hq)) ?_
      refine W.widen hf.1 hf.2 ?_
      exact lw_ret S.1 S.2.1 hr hlocks dL_law_649
    · have ha4 : a + 4 ≤ Lx := by
        have h3 : ¬ (nI Lx - 4).toInt < (nI a).toInt := fun q => hle (Int32.lt_iff_toInt_lt.mpr q)
        rw [e1, nI_toInt (by omega)] at h3
        omega
      have kk : ∀ (I2 : SI) (L2 : SL) (H2 : Heap) (locs2 : List Loc), GS E I2 L2 s H2 locs2 → Rel I2 L2 → W p l e room_1 s m #[Value.ref b] below meth c H2 locs2 cells slots (lw_Z below #[Value.ref b] s) (F0 m 642 ls []) := by
        intro I2 L2 H2 locs2 G2 hR2
        refine lv_iinc (v := nI (a + 4)) (lv' := [(3, .int (nI (a + 4))), (2, .ref (E.2.2.2 161)), (1, .ref (E.2.2.2 0)), (0, .ref b)]) S.1 S.2.1 dL_law_642 hl (k := 0) rfl (nI_add a 4) (by decide) rfl (fun ls hl => ?_)
        refine lv_goto (tgt := 18) S.1 S.2.1 dL_law_645 (by decide) ?_
        exact ih (r - 4) (by omega) (a + 4) (by omega) (by omega) I2 L2 H2 locs2 ls G2 hR2 hl
      refine lv_aload_n S.1 S.2.1 dL_law_26 rfl (lv_at hl 3 rfl) ?_
      refine lv_iload_n S.1 S.2.1 dL_law_27 rfl (lv_at hl 0 rfl) ?_
      refine va_sld S.1 S.2.1 hXs hbl hbA G.2 (show vp_in (nI a) Lx from vp_in_nI (by omega) (by omega)) dL_law_28 ?_
      refine lv_bipush (v := (31 : Int32)) S.1 S.2.1 dL_law_29 (by decide) ?_
      refine lv_iand S.1 S.2.1 dL_law_31 ?_
      refine lv_topi (fun v ev => ?_)
      clear ev
      rcases in_out (x := v) (n := 19) (by decide) with t | t
      · obtain ⟨k, hk, rfl⟩ := in_lt19 t
        rcases (show k = 0 ∨ k = 1 ∨ k = 2 ∨ k = 3 ∨ k = 4 ∨ k = 5 ∨ k = 6 ∨ k = 7 ∨ k = 8 ∨ k = 9 ∨ k = 10 ∨ k = 11 ∨ k = 12 ∨ k = 13 ∨ k = 14 ∨ k = 15 ∨ k = 16 ∨ k = 17 ∨ k = 18 by omega) with rfl | rfl | rfl | rfl | rfl | rfl | rfl | rfl | rfl | rfl | rfl | rfl | rfl | rfl | rfl | rfl | rfl | rfl | rfl
        · refine lv_tableIn (off := 92) (tgt := 124) S.1 S.2.1 dL_law_32 (by decide) (by decide) (by decide) (by decide) ?_
          exact lc_set hLW' G hRel ha4 hl hf kk
        · refine lv_tableIn (off := 125) (tgt := 157) S.1 S.2.1 dL_law_32 (by decide) (by decide) (by decide) (by decide) ?_
          exact lc_setLoad hLW' G hRel ha4 hl hf kk
        · refine lv_tableIn (off := 168) (tgt := 200) S.1 S.2.1 dL_law_32 (by decide) (by decide) (by decide) (by decide) ?_
          exact lc_command hLW' G hRel ha4 hl hf kk
        · refine lv_tableIn (off := 201) (tgt := 233) S.1 S.2.1 dL_law_32 (by decide) (by decide) (by decide) (by decide) ?_
          exact lc_chop hLW' G hRel ha4 hl hf kk
        · refine lv_tableIn (off := 234) (tgt := 266) S.1 S.2.1 dL_law_32 (by decide) (by decide) (by decide) (by decide) ?_
          exact lc_go hLW' G hRel ha4 hl hf kk
        · refine lv_tableIn (off := 257) (tgt := 289) S.1 S.2.1 dL_law_32 (by decide) (by decide) (by decide) (by decide) ?_
          exact lc_clear hLW' G hRel ha4 hl hf kk
        · refine lv_tableIn (off := 290) (tgt := 322) S.1 S.2.1 dL_law_32 (by decide) (by decide) (by decide) (by decide) ?_
          exact lc_undo hLW' G hRel ha4 hl hf kk
        · refine lv_tableIn (off := 303) (tgt := 335) S.1 S.2.1 dL_law_32 (by decide) (by decide) (by decide) (by decide) ?_
          exact lc_count hLW' G hRel ha4 hl hf kk
        · refine lv_tableIn (off := 327) (tgt := 359) S.1 S.2.1 dL_law_32 (by decide) (by decide) (by decide) (by decide) ?_
          exact lc_leg hLW' G hRel ha4 hl hf kk
        · refine lv_tableIn (off := 360) (tgt := 392) S.1 S.2.1 dL_law_32 (by decide) (by decide) (by decide) (by decide) ?_
          exact lc_load hLW' G hRel ha4 hl hf kk
        · refine lv_tableIn (off := 393) (tgt := 425) S.1 S.2.1 dL_law_32 (by decide) (by decide) (by decide) (by decide) ?_
          exact lc_fault hLW' G hRel ha4 hl hf kk
        · refine lv_tableIn (off := 436) (tgt := 468) S.1 S.2.1 dL_law_32 (by decide) (by decide) (by decide) (by decide) ?_
          exact lc_scope hLW' G hRel ha4 hl hf kk
        · refine lv_tableIn (off := 469) (tgt := 501) S.1 S.2.1 dL_law_32 (by decide) (by decide) (by decide) (by decide) ?_
          exact lc_until hLW' G hRel ha4 hl hf kk
        · refine lv_tableIn (off := 502) (tgt := 534) S.1 S.2.1 dL_law_32 (by decide) (by decide) (by decide) (by decide) ?_
          exact lc_ifGo hLW' G hRel ha4 hl hf kk
        · refine lv_tableIn (off := 535) (tgt := 567) S.1 S.2.1 dL_law_32 (by decide) (by decide) (by decide) (by decide) ?_
          exact lc_type hLW' G hRel ha4 hl hf kk
        · refine lv_tableIn (off := 558) (tgt := 590) S.1 S.2.1 dL_law_32 (by decide) (by decide) (by decide) (by decide) ?_
          exact lc_clearText hLW' G hRel ha4 hl hf kk
        · refine lv_tableIn (off := 571) (tgt := 603) S.1 S.2.1 dL_law_32 (by decide) (by decide) (by decide) (by decide) ?_
          exact lc_wrong hLW' G hRel ha4 hl hf kk
        · refine lv_tableIn (off := 584) (tgt := 616) S.1 S.2.1 dL_law_32 (by decide) (by decide) (by decide) (by decide) ?_
          exact lc_play hLW' G hRel ha4 hl hf kk
        · refine lv_tableIn (off := 597) (tgt := 629) S.1 S.2.1 dL_law_32 (by decide) (by decide) (by decide) (by decide) ?_
          exact lc_playing hLW' G hRel ha4 hl hf kk
      · refine lv_tableOut (tgt := 642) S.1 S.2.1 dL_law_32 t (by decide) ?_
        exact kk I L H locs G hRel
