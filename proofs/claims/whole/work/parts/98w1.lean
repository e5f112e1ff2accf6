set_option maxHeartbeats 4000000 in
set_option maxRecDepth 100000 in
theorem k_X9_wrong_ok (l : Launch) (E : Ev) {I : SI} {L : SL} (mx : Nat → Int32) (g : Nat → Int32) (lt : Nat → Int32) (n : Nat) (e_mx : I (161) = mx) (e_g : I (166) = g) (e_lt : I (167) = lt) (hx8 : mx 8 = nI n) (hn80 : n ≤ 80) (ht : fpG g n n 0 0 = -1) : CS l yX9_wrong wsX9_wrong ({ frames := 2, cells := 0, slots := 0, locals := 47 }) E [.ref (E.2.2.2 161)] I L (fun vv I' L' => vv = some (.int (-2000000004 : Int32)) ∧ ∃ mx' lt', L' = L ∧ I' = (up (up I 167 lt') 161 mx') ∧ (∀ f, f ≠ 9 → f ≠ 10 → f ≠ 11 → mx' f = mx f)) := by
  refine CS.of (cc := cX9_wrong) (maxL := 1) (ret := (some .int)) (by decide) rfl (Nat.le_of_ble_eq_true rfl) ?_
  intro pg en sg mg below meth cg ls S hr hlk hX G hl
  have S : CallFix pg mg cg cX9_wrong 1 sg _ wsX9_wrong RX9 := S
  have hl : lv_has ls 1 [(0, .ref (E.2.2.2 161))] := hl
  refine lv_aload_n S.1 S.2.1 dX9_wrong_0 rfl (lv_at hl 0 rfl) ?_
  refine lv_iconst (v := (0 : Int32)) S.1 S.2.1 dX9_wrong_1 (by decide) ?_
  refine s_put S hX G (i := 161) (kd := 9) (a := mx) (a' := (upd mx 9 (0 : Int32))) (I' := (up I 161 (upd mx 9 (0 : Int32)))) (v := .int (0 : Int32)) (ty := .int) (ty0 := tyX9) (C := RX9) (T := TX9) (N := 13) 9 (rfl : sh 161 = 9) e_mx rfl rfl rfl (by decide) rfl (fun _ h => (List.mem_cons_of_mem _ (List.mem_append_right _ h))) tyX9_ok nmX9 (by decide) (List.mem_of_getElem? (i := 1) rfl) (fun _ h => h) rfl (by decide +kernel) rfl rfl (Nat.le_of_ble_eq_true rfl) dX9_wrong_2 (fun H locs G => ?_)
  refine s_loop (α := Nat × (Nat → Int32) × (Nat → Int32)) (nL := 1) (E := E) (fun nn x I' L' => nn = n - x.1 ∧ x.1 ≤ n ∧ (∀ f, f ≠ 9 → f ≠ 10 → f ≠ 11 → x.2.1 f = mx f) ∧ x.2.1 9 = nI x.1 ∧ fpG g n (n - x.1) x.1 0 = fpG g n n 0 0 ∧ I' = (up (up I 167 x.2.2) 161 x.2.1) ∧ L' = L) (fun x => [(0, .ref (E.2.2.2 161))]) 5 (fun x => []) (fun nn ih_1 x I1 L1 H locs ls hP G hl => ?_) _ (0, ((upd mx 9 (0 : Int32))), (lt)) ⟨rfl, (Nat.zero_le _), (fun f a b c => (Eq.trans (upd_ne a) rfl)), rfl, (by rw [Nat.sub_zero]), (st_eq2 ((up_ne (by decide)).trans e_lt) up_eq (fun _ g0 g1 => (up_ne g1))), rfl⟩ G (lv_sub hl [0] rfl)
  obtain ⟨p, mz, lt⟩ := x
  obtain ⟨hn, hp, hmz, h9, hfp, hIc, hLc⟩ := hP
  have hn : nn = n - p := hn
  obtain ⟨I_b, rfl⟩ : ∃ z, z = I1 := ⟨I1, rfl⟩
  obtain ⟨L_b, rfl⟩ : ∃ z, z = L1 := ⟨L1, rfl⟩
  have hp : p ≤ n := hp
  have hmz : (∀ f, f ≠ 9 → f ≠ 10 → f ≠ 11 → mz f = mx f) := hmz
  have h9 : mz 9 = nI p := h9
  have hfp : fpG g n (n - p) p 0 = fpG g n n 0 0 := hfp
  have hIc : I_b = (up (up I 167 lt) 161 mz) := hIc
  have hLc : L_b = L := hLc
  have hl : lv_has ls 1 [(0, .ref (E.2.2.2 161))] := hl
  refine W.eq (g2 := F0 mg 5 ls []) rfl ?_
  have G : GS E (up (up I 167 lt) 161 mz) L sg H locs := G.same hIc hLc
  rcases Nat.lt_or_ge p n with hlt | hge
  · have hlt : p < n := hlt
    refine lv_aload_n S.1 S.2.1 dX9_wrong_5 rfl (lv_at hl 0 rfl) ?_
    refine s_get S hX G (i := 161) (kd := 9) (a := mz) (v := .int (mz 9)) (C := RX9) (T := TX9) (N := 13) 9 (rfl : sh 161 = 9) up_eq rfl rfl (by decide) rfl (fun _ h => (List.mem_cons_of_mem _ (List.mem_append_right _ h))) (by decide) (List.mem_of_getElem? (i := 1) rfl) (fun _ h => h) dX9_wrong_6 ?_
    refine s_conv (y := (nI p)) h9 ?_
    refine lv_aload_n S.1 S.2.1 dX9_wrong_9 rfl (lv_at hl 0 rfl) ?_
    refine s_get S hX G (i := 161) (kd := 9) (a := mz) (v := .int (mz 8)) (C := RX9) (T := TX9) (N := 13) 8 (rfl : sh 161 = 9) up_eq rfl rfl (by decide) rfl (fun _ h => (List.mem_cons_of_mem _ (List.mem_append_right _ h))) (by decide) (List.mem_of_getElem? (i := 2) rfl) (fun _ h => h) dX9_wrong_10 ?_
    refine s_conv (y := (nI n)) (Eq.trans (hmz 8 (by decide) (by decide) (by decide)) hx8) ?_
    refine lv_icmp_ge (tgt := 28) S.1 S.2.1 dX9_wrong_13 (by decide) (fun h => absurd h (nI_ge hlt (by omega))) (fun _ => ?_)
    refine lv_aload_n S.1 S.2.1 dX9_wrong_16 rfl (lv_at hl 0 rfl) ?_
    refine s_callV (C := RX9) (As := []) (rest := []) (i := 161) (kd := 9) S hX G (k_X9_reads l E mz g lt n p up_eq ((up_ne (by decide)).trans ((up_ne (by decide)).trans e_g)) ((up_ne (by decide)).trans up_eq) (Eq.trans (hmz 8 (by decide) (by decide) (by decide)) hx8) h9 hn80 hp) (cwV (bytes := cX9_reads) (maxL := 3) (ret := (some .boolean)) 0 S.2.2.2.2 gX9_wrong_X9_reads rfl rfl rfl (by decide +kernel) ⟨Nat.le_of_ble_eq_true rfl, Nat.le_of_ble_eq_true rfl⟩) (rfl : sh 161 = 9) rfl rfl rfl (by decide) rfl hl.1 rfl (Nat.le_of_ble_eq_true rfl) ⟨Nat.zero_le _, Nat.zero_le _⟩ dX9_wrong_17 (fun v I2 L2 H locs hR G => ?_)
    obtain ⟨mz2, lt2, hL2, hI2, hfr, hRd⟩ := hR
    have G : GS E (up (up I 167 lt2) 161 mz2) L sg H locs := G.same (hI2.trans (st_eq2 ((up_ne (by decide)).trans up_eq) up_eq (fun _ g0 g1 => ((up_ne g1).trans ((up_ne g0).trans ((up_ne g1).trans (up_ne g0))))))) hL2
    have hmz2 : (∀ f, f ≠ 9 → f ≠ 10 → f ≠ 11 → mz2 f = mx f) := fun f a b c => Eq.trans (hfr f a b c) (hmz f a b c)
    rcases hRd with ⟨hv, ⟨p2, hok, h92⟩, hlt2⟩ | ⟨hv, q, hno, h10⟩
    · subst hv
      refine W.eq (g2 := F0 mg 20 ls [.int (1 : Int32)]) rfl ?_
      refine lv_if_ne (tgt := 5) S.1 S.2.1 dX9_wrong_20 (by decide) (fun _ => ?_) (fun h => absurd h (by decide))
      exact ih_1 _ (by have := rd_ok hlt hok; omega) (p2, mz2, lt2) _ _ _ _ _ ⟨rfl, (rd_ok hlt hok).2.1, hmz2, h92, ((rd_ok hlt hok).2.2.1.symm.trans hfp), rfl, rfl⟩ G (lv_sub hl [0] rfl)
    · exact absurd (Eq.trans (rd_no hlt hno).1.symm (Eq.trans hfp ht)) (nI_ne_m1 (by have := (rd_no hlt hno).2; omega))
  · have hpn : n = p := by omega
    subst hpn
    refine lv_aload_n S.1 S.2.1 dX9_wrong_5 rfl (lv_at hl 0 rfl) ?_
    refine s_get S hX G (i := 161) (kd := 9) (a := mz) (v := .int (mz 9)) (C := RX9) (T := TX9) (N := 13) 9 (rfl : sh 161 = 9) up_eq rfl rfl (by decide) rfl (fun _ h => (List.mem_cons_of_mem _ (List.mem_append_right _ h))) (by decide) (List.mem_of_getElem? (i := 1) rfl) (fun _ h => h) dX9_wrong_6 ?_
    refine s_conv (y := (nI p)) h9 ?_
    refine lv_aload_n S.1 S.2.1 dX9_wrong_9 rfl (lv_at hl 0 rfl) ?_
    refine s_get S hX G (i := 161) (kd := 9) (a := mz) (v := .int (mz 8)) (C := RX9) (T := TX9) (N := 13) 8 (rfl : sh 161 = 9) up_eq rfl rfl (by decide) rfl (fun _ h => (List.mem_cons_of_mem _ (List.mem_append_right _ h))) (by decide) (List.mem_of_getElem? (i := 2) rfl) (fun _ h => h) dX9_wrong_10 ?_
    refine s_conv (y := (nI n)) (Eq.trans (hmz 8 (by decide) (by decide) (by decide)) hx8) ?_
    refine lv_icmp_ge (tgt := 28) S.1 S.2.1 dX9_wrong_13 (by decide) (fun _ => ?_) (fun h => absurd (nI_le (by omega) (by omega)) h)
    refine lv_ldc (v := (-2000000004 : Int32)) S.1 S.2.1 S.2.2.2.1 (S.2.2.2.2 _ (List.mem_of_getElem? (i := 4) rfl)) dX9_wrong_28 ?_
    refine s_iret (x := (-2000000004 : Int32)) S G hr hlk dX9_wrong_30 ?_
    exact ⟨rfl, mz, lt, rfl, rfl, hmz⟩
