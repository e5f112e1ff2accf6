set_option maxHeartbeats 4000000 in
set_option maxRecDepth 100000 in
theorem k_X9_play_np (l : Launch) (E : Ev) {I : SI} {L : SL} (mx : Nat → Int32) (g : Nat → Int32) (lt : Nat → Int32) (n : Nat) (e_mx : I (161) = mx) (e_g : I (166) = g) (e_lt : I (167) = lt) (hx8 : mx 8 = nI n) (hn80 : n ≤ 80) (ht : ¬ fpG g n n 0 0 = -1) : CS l yX9_play wsX9_play ({ frames := 4, cells := 0, slots := 0, locals := 88 }) E [.ref (E.2.2.2 161)] I L (fun vv I' L' => vv = some (.int (-2000000002 : Int32)) ∧ ∃ mx' lt', L' = L ∧ I' = (up (up I 167 lt') 161 mx') ∧ (∀ f, f ≠ 9 → f ≠ 10 → f ≠ 11 → mx' f = mx f)) := by
  refine CS.of (cc := cX9_play) (maxL := 3) (ret := (some .int)) (by decide) rfl (Nat.le_of_ble_eq_true rfl) ?_
  intro pg en sg mg below meth cg ls S hr hlk hX G hl
  have S : CallFix pg mg cg cX9_play 3 sg _ wsX9_play RX9 := S
  have hl : lv_has ls 3 [(0, .ref (E.2.2.2 161))] := hl
  refine lv_aload_n S.1 S.2.1 dX9_play_0 rfl (lv_at hl 0 rfl) ?_
  refine s_callV (C := RX9) (As := []) (rest := []) (i := 161) (kd := 9) S hX G (k_X9_playing_no l E mx g lt n e_mx e_g e_lt hx8 hn80 ht) (cwV (bytes := cX9_playing) (maxL := 2) (ret := (some .int)) 0 S.2.2.2.2 gX9_play_X9_playing rfl rfl rfl (by decide +kernel) ⟨Nat.le_of_ble_eq_true rfl, Nat.le_of_ble_eq_true rfl⟩) (rfl : sh 161 = 9) rfl rfl rfl (by decide) rfl hl.1 rfl (Nat.le_of_ble_eq_true rfl) ⟨Nat.zero_le _, Nat.zero_le _⟩ dX9_play_1 (fun v I2 L2 H locs hR G => ?_)
  obtain ⟨hv, mw, lw, hL2, hI2, hmw⟩ := hR
  subst hv
  have G : GS E (up (up I 167 lw) 161 mw) L sg H locs := G.same hI2 hL2
  refine W.eq (g2 := F0 mg 4 ls [.int (-2000000002 : Int32)]) rfl ?_
  refine lv_istore_n (lv' := [(1, .int (-2000000002 : Int32)), (0, .ref (E.2.2.2 161))]) S.1 S.2.1 dX9_play_4 rfl hl (by decide) rfl (fun ls hl => ?_)
  refine lv_iload_n S.1 S.2.1 dX9_play_5 rfl (lv_at hl 0 rfl) ?_
  refine lv_if_ge (tgt := 12) S.1 S.2.1 dX9_play_6 (by decide) (fun h => absurd h (by decide)) (fun _ => ?_)
  refine lv_ldc (v := (-2000000002 : Int32)) S.1 S.2.1 S.2.2.2.1 (S.2.2.2.2 _ (List.mem_of_getElem? (i := 1) rfl)) dX9_play_9 ?_
  refine s_iret (x := (-2000000002 : Int32)) S G hr hlk dX9_play_11 ?_
  exact ⟨rfl, mw, lw, rfl, rfl, hmw⟩
set_option maxHeartbeats 4000000 in
set_option maxRecDepth 100000 in
theorem k_X9_play_lim (l : Launch) (E : Ev) {I : SI} {L : SL} (mx : Nat → Int32) (g : Nat → Int32) (lt : Nat → Int32) (d : Nat → Int32) (n k0 m : Nat) (e_mx : I (161) = mx) (e_g : I (166) = g) (e_lt : I (167) = lt) (e_d : I (162) = d) (hx8 : mx 8 = nI n) (hn80 : n ≤ 80) (ht : fpG g n n 0 0 = -1) (hd : d 0 = nI k0) (hm : slL g n = nI m) (hb : k0 + m < 2 ^ 30) (h3 : 100000 < k0 + m) : CS l yX9_play wsX9_play ({ frames := 4, cells := 0, slots := 0, locals := 88 }) E [.ref (E.2.2.2 161)] I L (fun vv I' L' => vv = some (.int (-2000000003 : Int32)) ∧ ∃ mx' lt', L' = L ∧ I' = (up (up I 167 lt') 161 mx') ∧ (∀ f, f ≠ 9 → f ≠ 10 → f ≠ 11 → mx' f = mx f)) := by
  refine CS.of (cc := cX9_play) (maxL := 3) (ret := (some .int)) (by decide) rfl (Nat.le_of_ble_eq_true rfl) ?_
  intro pg en sg mg below meth cg ls S hr hlk hX G hl
  have S : CallFix pg mg cg cX9_play 3 sg _ wsX9_play RX9 := S
  have hl : lv_has ls 3 [(0, .ref (E.2.2.2 161))] := hl
  refine lv_aload_n S.1 S.2.1 dX9_play_0 rfl (lv_at hl 0 rfl) ?_
  refine s_callV (C := RX9) (As := []) (rest := []) (i := 161) (kd := 9) S hX G (k_X9_playing_ok l E mx g lt n e_mx e_g e_lt hx8 hn80 ht) (cwV (bytes := cX9_playing) (maxL := 2) (ret := (some .int)) 0 S.2.2.2.2 gX9_play_X9_playing rfl rfl rfl (by decide +kernel) ⟨Nat.le_of_ble_eq_true rfl, Nat.le_of_ble_eq_true rfl⟩) (rfl : sh 161 = 9) rfl rfl rfl (by decide) rfl hl.1 rfl (Nat.le_of_ble_eq_true rfl) ⟨Nat.zero_le _, Nat.zero_le _⟩ dX9_play_1 (fun v I2 L2 H locs hR G => ?_)
  obtain ⟨hv, mw, lw, hL2, hI2, hmw⟩ := hR
  subst hv
  have G : GS E (up (up I 167 lw) 161 mw) L sg H locs := G.same hI2 hL2
  refine W.eq (g2 := F0 mg 4 ls [.int (slL g n)]) rfl ?_
  refine s_conv (y := (nI m)) hm ?_
  refine lv_istore_n (lv' := [(1, .int (nI m)), (0, .ref (E.2.2.2 161))]) S.1 S.2.1 dX9_play_4 rfl hl (by decide) rfl (fun ls hl => ?_)
  refine lv_iload_n S.1 S.2.1 dX9_play_5 rfl (lv_at hl 0 rfl) ?_
  refine lv_if_ge (tgt := 12) S.1 S.2.1 dX9_play_6 (by decide) (fun _ => ?_) (fun h => absurd (show (0 : Int32) ≤ nI m from nI_le (a := 0) (by omega) (by omega)) h)
  refine lv_aload_n S.1 S.2.1 dX9_play_12 rfl (lv_at hl 1 rfl) ?_
  refine s_get S hX G (i := 161) (kd := 9) (a := mw) (v := .ref (E.2.2.2 162)) (C := RX9) (T := TX9) (N := 13) 0 (rfl : sh 161 = 9) up_eq rfl rfl (by decide) rfl (fun _ h => (List.mem_cons_of_mem _ (List.mem_append_right _ h))) (by decide) (List.mem_of_getElem? (i := 2) rfl) (fun _ h => h) dX9_play_13 ?_
  refine lv_iconst (v := (0 : Int32)) S.1 S.2.1 dX9_play_16 (by decide) ?_
  refine s_iald S hX G (i := 162) (kd := 284) (n := 270) (a := d) (x := (d 0)) (rfl : sh 162 = 284) ((up_ne (by decide)).trans ((up_ne (by decide)).trans e_d)) rfl (by decide) (by unfold vp_in; decide) (congrArg d (by decide)) dX9_play_17 ?_
  refine s_conv (y := (nI k0)) hd ?_
  refine lv_iload_n S.1 S.2.1 dX9_play_18 rfl (lv_at hl 0 rfl) ?_
  refine s_iadd (v := (nI (k0 + m))) S dX9_play_19 (nI_add k0 m) ?_
  refine lv_ldc (v := (100000 : Int32)) S.1 S.2.1 S.2.2.2.1 (S.2.2.2.2 _ (List.mem_of_getElem? (i := 3) rfl)) dX9_play_20 ?_
  refine lv_icmp_le (tgt := 28) S.1 S.2.1 dX9_play_22 (by decide) (fun h => absurd h (nI_ge (a := 100000) h3 (by omega))) (fun _ => ?_)
  refine lv_ldc (v := (-2000000003 : Int32)) S.1 S.2.1 S.2.2.2.1 (S.2.2.2.2 _ (List.mem_of_getElem? (i := 4) rfl)) dX9_play_25 ?_
  refine s_iret (x := (-2000000003 : Int32)) S G hr hlk dX9_play_27 ?_
  exact ⟨rfl, mw, lw, rfl, rfl, hmw⟩
set_option maxHeartbeats 4000000 in
set_option maxRecDepth 100000 in
theorem k_X9_play_ok (l : Launch) (E : Ev) {I : SI} {L : SL} (mx : Nat → Int32) (g : Nat → Int32) (lt0 : Nat → Int32) (d : Nat → Int32) (wa : Nat → Int32) (lx : Nat → Int64) (lz : Nat → Int64) (kp n k0 m : Nat) (e_mx : I (161) = mx) (e_g : I (166) = g) (e_lt0 : I (167) = lt0) (e_d : I (162) = d) (e_wa : I (163) = wa) (e_lx : L (161) = lx) (e_lz : L (164) = lz) (hx8 : mx 8 = nI n) (hn80 : n ≤ 80) (hx2 : mx 2 = nI kp) (hkp : kp ≤ 4) (ht : fpG g n n 0 0 = -1) (hd : d 0 = nI k0) (hm : slL g n = nI m) (h3 : k0 + m ≤ 100000) (hc : cmdsM d) : CS l yX9_play wsX9_play ({ frames := 5, cells := 0, slots := 0, locals := 112 }) E [.ref (E.2.2.2 161)] I L (fun vv I' L' => vv = some (.int (nI m)) ∧ ∃ mx' lt', L' = (upL (upL L 164 (recS lz (lx 3) kp)) 161 (plM g d lx n).2.1) ∧ I' = (up (up (up (up I 163 (recW d wa kp)) 167 lt') 161 mx') 162 (plM g d lx n).1) ∧ mx' 2 = nI (recK kp) ∧ mx' 8 = nI n) := by
  refine CS.of (cc := cX9_play) (maxL := 3) (ret := (some .int)) (by decide) rfl (Nat.le_of_ble_eq_true rfl) ?_
  intro pg en sg mg below meth cg ls S hr hlk hX G hl
  have S : CallFix pg mg cg cX9_play 3 sg _ wsX9_play RX9 := S
  have hl : lv_has ls 3 [(0, .ref (E.2.2.2 161))] := hl
  refine lv_aload_n S.1 S.2.1 dX9_play_0 rfl (lv_at hl 0 rfl) ?_
  refine s_callV (C := RX9) (As := []) (rest := []) (i := 161) (kd := 9) S hX G (k_X9_playing_ok l E mx g lt0 n e_mx e_g e_lt0 hx8 hn80 ht) (cwV (bytes := cX9_playing) (maxL := 2) (ret := (some .int)) 0 S.2.2.2.2 gX9_play_X9_playing rfl rfl rfl (by decide +kernel) ⟨Nat.le_of_ble_eq_true rfl, Nat.le_of_ble_eq_true rfl⟩) (rfl : sh 161 = 9) rfl rfl rfl (by decide) rfl hl.1 rfl (Nat.le_of_ble_eq_true rfl) ⟨Nat.zero_le _, Nat.zero_le _⟩ dX9_play_1 (fun v I2 L2 H locs hR G => ?_)
  obtain ⟨hv, mw, lw, hL2, hI2, hmw⟩ := hR
  subst hv
  have G : GS E (up (up I 167 lw) 161 mw) L sg H locs := G.same hI2 hL2
  refine W.eq (g2 := F0 mg 4 ls [.int (slL g n)]) rfl ?_
  refine s_conv (y := (nI m)) hm ?_
  refine lv_istore_n (lv' := [(1, .int (nI m)), (0, .ref (E.2.2.2 161))]) S.1 S.2.1 dX9_play_4 rfl hl (by decide) rfl (fun ls hl => ?_)
  refine lv_iload_n S.1 S.2.1 dX9_play_5 rfl (lv_at hl 0 rfl) ?_
  refine lv_if_ge (tgt := 12) S.1 S.2.1 dX9_play_6 (by decide) (fun _ => ?_) (fun h => absurd (show (0 : Int32) ≤ nI m from nI_le (a := 0) (by omega) (by omega)) h)
  refine lv_aload_n S.1 S.2.1 dX9_play_12 rfl (lv_at hl 1 rfl) ?_
  refine s_get S hX G (i := 161) (kd := 9) (a := mw) (v := .ref (E.2.2.2 162)) (C := RX9) (T := TX9) (N := 13) 0 (rfl : sh 161 = 9) up_eq rfl rfl (by decide) rfl (fun _ h => (List.mem_cons_of_mem _ (List.mem_append_right _ h))) (by decide) (List.mem_of_getElem? (i := 2) rfl) (fun _ h => h) dX9_play_13 ?_
  refine lv_iconst (v := (0 : Int32)) S.1 S.2.1 dX9_play_16 (by decide) ?_
  refine s_iald S hX G (i := 162) (kd := 284) (n := 270) (a := d) (x := (d 0)) (rfl : sh 162 = 284) ((up_ne (by decide)).trans ((up_ne (by decide)).trans e_d)) rfl (by decide) (by unfold vp_in; decide) (congrArg d (by decide)) dX9_play_17 ?_
  refine s_conv (y := (nI k0)) hd ?_
  refine lv_iload_n S.1 S.2.1 dX9_play_18 rfl (lv_at hl 0 rfl) ?_
  refine s_iadd (v := (nI (k0 + m))) S dX9_play_19 (nI_add k0 m) ?_
  refine lv_ldc (v := (100000 : Int32)) S.1 S.2.1 S.2.2.2.1 (S.2.2.2.2 _ (List.mem_of_getElem? (i := 3) rfl)) dX9_play_20 ?_
  refine lv_icmp_le (tgt := 28) S.1 S.2.1 dX9_play_22 (by decide) (fun _ => ?_) (fun h => absurd (nI_le (b := 100000) h3 (by decide)) h)
  refine lv_aload_n S.1 S.2.1 dX9_play_28 rfl (lv_at hl 1 rfl) ?_
  refine s_callV (C := RX9) (As := []) (rest := []) (i := 161) (kd := 9) S hX G (k_X9_records l E mw d wa lx lz kp up_eq ((up_ne (by decide)).trans ((up_ne (by decide)).trans e_d)) ((up_ne (by decide)).trans ((up_ne (by decide)).trans e_wa)) e_lx e_lz (Eq.trans (hmw 2 (by decide) (by decide) (by decide)) hx2) hkp) (cwV (bytes := cX9_records) (maxL := 2) (ret := none) 0 S.2.2.2.2 gX9_play_X9_records rfl rfl rfl (by decide +kernel) ⟨Nat.le_of_ble_eq_true rfl, Nat.le_of_ble_eq_true rfl⟩) (rfl : sh 161 = 9) rfl rfl rfl (by decide) rfl hl.1 rfl (Nat.le_of_ble_eq_true rfl) ⟨Nat.zero_le _, Nat.zero_le _⟩ dX9_play_29 (fun v I1 L1 H locs hR G => ?_)
  obtain ⟨hv, hI, hL⟩ := hR
  subst hv
  have hI : I1 = (up (up (up (up I 167 lw) 161 mw) 161 (upd mw 2 (nI (recK kp)))) 163 (recW d wa kp)) := hI
  have hL : L1 = (upL L 164 (recS lz (lx 3) kp)) := hL
  have G : GS E (up (up (up I 167 lw) 161 (upd mw 2 (nI (recK kp)))) 163 (recW d wa kp)) (upL L 164 (recS lz (lx 3) kp)) sg H locs := G.same (hI.trans (st_eq3 ((up_ne (by decide)).trans ((up_ne (by decide)).trans ((up_ne (by decide)).trans up_eq))) ((up_ne (by decide)).trans up_eq) up_eq (fun _ g0 g1 g2 => ((up_ne g2).trans ((up_ne g1).trans ((up_ne g1).trans (up_ne g0))))))) hL
  refine W.eq (g2 := F0 mg 32 ls []) rfl ?_
  refine lv_aload_n S.1 S.2.1 dX9_play_32 rfl (lv_at hl 1 rfl) ?_
  refine lv_iconst (v := (0 : Int32)) S.1 S.2.1 dX9_play_33 (by decide) ?_
  refine s_put S hX G (i := 161) (kd := 9) (a := (upd mw 2 (nI (recK kp)))) (a' := (upd (upd mw 2 (nI (recK kp))) 9 (0 : Int32))) (I' := (up (up (up I 167 lw) 163 (recW d wa kp)) 161 (upd (upd mw 2 (nI (recK kp))) 9 (0 : Int32)))) (v := .int (0 : Int32)) (ty := .int) (ty0 := tyX9) (C := RX9) (T := TX9) (N := 13) 9 (rfl : sh 161 = 9) ((up_ne (by decide)).trans up_eq) rfl rfl (by rw [up_swap (i := 161) (j := 163) (by decide), up_up]) (by decide) rfl (fun _ h => (List.mem_cons_of_mem _ (List.mem_append_right _ h))) tyX9_ok nmX9 (by decide) (List.mem_of_getElem? (i := 5) rfl) (fun _ h => h) rfl (by decide +kernel) rfl rfl (Nat.le_of_ble_eq_true rfl) dX9_play_34 (fun H locs G => ?_)
  refine s_loop (α := Nat × (Nat → Int32) × (Nat → Int32)) (nL := 3) (E := E) (fun nn x I' L' => nn = n - x.1 ∧ x.1 ≤ n ∧ (∀ f, f ≠ 9 → f ≠ 10 → f ≠ 11 → x.2.1 f = (upd mw 2 (nI (recK kp))) f) ∧ x.2.1 9 = nI x.1 ∧ fpG g n (n - x.1) x.1 0 = fpG g n n 0 0 ∧ (plM g d lx x.1).2.2 = 0 ∧ cmdsM (plM g d lx x.1).1 ∧ I' = (up (up (up (up I 163 (recW d wa kp)) 167 x.2.2) 161 x.2.1) 162 (plM g d lx x.1).1) ∧ L' = (upL (upL L 164 (recS lz (lx 3) kp)) 161 (plM g d lx x.1).2.1)) (fun x => [(1, .int (nI m)), (0, .ref (E.2.2.2 161))]) 37 (fun x => []) (fun nn ih_1 x I1 L1 H locs ls hP G hl => ?_) _ (0, ((upd (upd mw 2 (nI (recK kp))) 9 (0 : Int32))), (lw)) ⟨rfl, (Nat.zero_le _), (fun f a b c => (Eq.trans (upd_ne a) rfl)), rfl, (by rw [Nat.sub_zero]), rfl, hc, (st_eq4 ((up_ne (by decide)).trans up_eq) ((up_ne (by decide)).trans ((up_ne (by decide)).trans up_eq)) up_eq ((up_ne (by decide)).trans ((up_ne (by decide)).trans ((up_ne (by decide)).trans e_d))) (fun _ g0 g1 g2 g3 => ((up_ne g2).trans ((up_ne g0).trans (up_ne g1))))), (lt_eq2 upL_eq ((upL_ne (by decide)).trans e_lx) (fun _ g0 g1 => (upL_ne g0)))⟩ G (lv_sub hl [0, 1] rfl)
  obtain ⟨p, mz, lt⟩ := x
  obtain ⟨hn, hp, hmz, h9, hfp, hlg, hcp, hIc, hLc⟩ := hP
  have hn : nn = n - p := hn
  obtain ⟨I_b, rfl⟩ : ∃ z, z = I1 := ⟨I1, rfl⟩
  obtain ⟨L_b, rfl⟩ : ∃ z, z = L1 := ⟨L1, rfl⟩
  have hp : p ≤ n := hp
  have hmz : (∀ f, f ≠ 9 → f ≠ 10 → f ≠ 11 → mz f = (upd mw 2 (nI (recK kp))) f) := hmz
  have h9 : mz 9 = nI p := h9
  have hfp : fpG g n (n - p) p 0 = fpG g n n 0 0 := hfp
  have hlg : (plM g d lx p).2.2 = 0 := hlg
  have hcp : cmdsM (plM g d lx p).1 := hcp
  have hIc : I_b = (up (up (up (up I 163 (recW d wa kp)) 167 lt) 161 mz) 162 (plM g d lx p).1) := hIc
  have hLc : L_b = (upL (upL L 164 (recS lz (lx 3) kp)) 161 (plM g d lx p).2.1) := hLc
  have hl : lv_has ls 3 [(1, .int (nI m)), (0, .ref (E.2.2.2 161))] := hl
  refine W.eq (g2 := F0 mg 37 ls []) rfl ?_
  have G : GS E (up (up (up (up I 163 (recW d wa kp)) 167 lt) 161 mz) 162 (plM g d lx p).1) (upL (upL L 164 (recS lz (lx 3) kp)) 161 (plM g d lx p).2.1) sg H locs := G.same hIc hLc
  rcases Nat.lt_or_ge p n with hlt | hge
  · have hlt : p < n := hlt
    refine lv_aload_n S.1 S.2.1 dX9_play_37 rfl (lv_at hl 1 rfl) ?_
    refine s_get S hX G (i := 161) (kd := 9) (a := mz) (v := .int (mz 9)) (C := RX9) (T := TX9) (N := 13) 9 (rfl : sh 161 = 9) ((up_ne (by decide)).trans up_eq) rfl rfl (by decide) rfl (fun _ h => (List.mem_cons_of_mem _ (List.mem_append_right _ h))) (by decide) (List.mem_of_getElem? (i := 5) rfl) (fun _ h => h) dX9_play_38 ?_
    refine s_conv (y := (nI p)) h9 ?_
    refine lv_aload_n S.1 S.2.1 dX9_play_41 rfl (lv_at hl 1 rfl) ?_
    refine s_get S hX G (i := 161) (kd := 9) (a := mz) (v := .int (mz 8)) (C := RX9) (T := TX9) (N := 13) 8 (rfl : sh 161 = 9) ((up_ne (by decide)).trans up_eq) rfl rfl (by decide) rfl (fun _ h => (List.mem_cons_of_mem _ (List.mem_append_right _ h))) (by decide) (List.mem_of_getElem? (i := 6) rfl) (fun _ h => h) dX9_play_42 ?_
    refine s_conv (y := (nI n)) (Eq.trans (hmz 8 (by decide) (by decide) (by decide)) (Eq.trans (hmw 8 (by decide) (by decide) (by decide)) hx8)) ?_
    refine lv_icmp_ge (tgt := 131) S.1 S.2.1 dX9_play_45 (by decide) (fun h => absurd h (nI_ge hlt (by omega))) (fun _ => ?_)
    refine lv_aload_n S.1 S.2.1 dX9_play_48 rfl (lv_at hl 1 rfl) ?_
    refine s_callV (C := RX9) (As := []) (rest := []) (i := 161) (kd := 9) S hX G (k_X9_reads l E mz g lt n p ((up_ne (by decide)).trans up_eq) ((up_ne (by decide)).trans ((up_ne (by decide)).trans ((up_ne (by decide)).trans ((up_ne (by decide)).trans e_g)))) ((up_ne (by decide)).trans ((up_ne (by decide)).trans up_eq)) (Eq.trans (hmz 8 (by decide) (by decide) (by decide)) (Eq.trans (hmw 8 (by decide) (by decide) (by decide)) hx8)) h9 hn80 hp) (cwV (bytes := cX9_reads) (maxL := 3) (ret := (some .boolean)) 0 S.2.2.2.2 gX9_play_X9_reads rfl rfl rfl (by decide +kernel) ⟨Nat.le_of_ble_eq_true rfl, Nat.le_of_ble_eq_true rfl⟩) (rfl : sh 161 = 9) rfl rfl rfl (by decide) rfl hl.1 rfl (Nat.le_of_ble_eq_true rfl) ⟨Nat.zero_le _, Nat.zero_le _⟩ dX9_play_49 (fun v I2 L2 H locs hR G => ?_)
    obtain ⟨mz2, lt2, hL2, hI2, hfr, hRd⟩ := hR
    have G : GS E (up (up (up (up I 163 (recW d wa kp)) 162 ((plM g d lx p).1)) 167 lt2) 161 mz2) (upL (upL L 164 (recS lz (lx 3) kp)) 161 ((plM g d lx p).2.1)) sg H locs := G.same (hI2.trans (st_eq4 ((up_ne (by decide)).trans ((up_ne (by decide)).trans ((up_ne (by decide)).trans ((up_ne (by decide)).trans ((up_ne (by decide)).trans up_eq))))) ((up_ne (by decide)).trans ((up_ne (by decide)).trans up_eq)) ((up_ne (by decide)).trans up_eq) up_eq (fun _ g0 g1 g2 g3 => ((up_ne g3).trans ((up_ne g2).trans ((up_ne g1).trans ((up_ne g3).trans ((up_ne g2).trans (up_ne g0))))))))) hL2
    have hmz2 : (∀ f, f ≠ 9 → f ≠ 10 → f ≠ 11 → mz2 f = (upd mw 2 (nI (recK kp))) f) := fun f a b c => Eq.trans (hfr f a b c) (hmz f a b c)
    rcases hRd with ⟨hv, ⟨p2, hok, h92⟩, hlt2⟩ | ⟨hv, q, hno, h10⟩
    · subst hv
      refine W.eq (g2 := F0 mg 52 ls [.int (1 : Int32)]) rfl ?_
      refine lv_pop S.1 S.2.1 dX9_play_52 rfl ?_
      refine lv_iconst (v := (0 : Int32)) S.1 S.2.1 dX9_play_53 (by decide) ?_
      refine lv_istore_n (lv' := [(2, .int (0 : Int32)), (1, .int (nI m)), (0, .ref (E.2.2.2 161))]) S.1 S.2.1 dX9_play_54 rfl hl (by decide) rfl (fun ls hl => ?_)
      refine lv_iload_n S.1 S.2.1 dX9_play_55 rfl (lv_at hl 0 rfl) ?_
      refine lv_iconst (v := (4 : Int32)) S.1 S.2.1 dX9_play_56 (by decide) ?_
      refine lv_icmp_ge (tgt := 107) S.1 S.2.1 dX9_play_57 (by decide) (fun h => absurd h (by decide)) (fun _ => ?_)
      refine lv_aload_n S.1 S.2.1 dX9_play_60 rfl (lv_at hl 2 rfl) ?_
      refine s_get S hX G (i := 161) (kd := 9) (a := mz2) (v := .ref (E.2.2.2 162)) (C := RX9) (T := TX9) (N := 13) 0 (rfl : sh 161 = 9) up_eq rfl rfl (by decide) rfl (fun _ h => (List.mem_cons_of_mem _ (List.mem_append_right _ h))) (by decide) (List.mem_of_getElem? (i := 2) rfl) (fun _ h => h) dX9_play_61 ?_
      refine lv_iload_n S.1 S.2.1 dX9_play_64 rfl (lv_at hl 0 rfl) ?_
      refine s_callS (As := [.int (0 : Int32)]) (rest := [.ref (E.2.2.2 162)]) S hX G (k_X9_legAt_0 l E) (va_cwS (bytes := cX9_legAt) (maxL := 1) (ret := (some .int)) 1 S.2.2.2.2 gX9_play_X9_legAt rfl rfl rfl (by decide +kernel) ⟨Nat.le_of_ble_eq_true rfl, Nat.le_of_ble_eq_true rfl⟩) rfl hl.1 rfl (Nat.le_of_ble_eq_true rfl) ⟨Nat.zero_le _, Nat.zero_le _⟩ dX9_play_65 (fun v I1 L1 H locs hR G => ?_)
      obtain ⟨hv, hI, hL⟩ := hR
      subst hv
      have G : GS E (up (up (up (up I 163 (recW d wa kp)) 162 ((plM g d lx p).1)) 167 lt2) 161 mz2) (upL (upL L 164 (recS lz (lx 3) kp)) 161 ((plM g d lx p).2.1)) sg H locs := G.same hI hL
      refine W.eq (g2 := F0 mg 68 ls [.int (8 : Int32), .ref (E.2.2.2 162)]) rfl ?_
      refine lv_iconst (v := (0 : Int32)) S.1 S.2.1 dX9_play_68 (by decide) ?_
      refine s_iadd (v := (8 : Int32)) S dX9_play_69 (by decide) ?_
      refine lv_aload_n S.1 S.2.1 dX9_play_70 rfl (lv_at hl 2 rfl) ?_
      refine s_get S hX G (i := 161) (kd := 9) (a := mz2) (v := .ref (E.2.2.2 167)) (C := RX9) (T := TX9) (N := 13) 12 (rfl : sh 161 = 9) up_eq rfl rfl (by decide) rfl (fun _ h => (List.mem_cons_of_mem _ (List.mem_append_right _ h))) (by decide) (List.mem_of_getElem? (i := 7) rfl) (fun _ h => h) dX9_play_71 ?_
      refine lv_iload_n S.1 S.2.1 dX9_play_74 rfl (lv_at hl 0 rfl) ?_
      refine s_iald S hX G (i := 167) (kd := 18) (n := 4) (a := lt2) (x := (lt2 0)) (rfl : sh 167 = 18) ((up_ne (by decide)).trans up_eq) rfl (by decide) (by unfold vp_in; decide) (congrArg lt2 (by decide)) dX9_play_75 ?_
      refine lv_iconst (v := (3 : Int32)) S.1 S.2.1 dX9_play_76 (by decide) ?_
      refine s_cut (α := Int32) (nL := 3) (E := E) (fun x I' L' => x = (if lt2 0 = 3 then ((plM g d lx p).1 8) else (lt2 0)) ∧ I' = (up (up (up (up I 163 (recW d wa kp)) 162 ((plM g d lx p).1)) 167 lt2) 161 mz2) ∧ L' = (upL (upL L 164 (recS lz (lx 3) kp)) 161 ((plM g d lx p).2.1))) (fun x => [(2, .int (0 : Int32)), (1, .int (nI m)), (0, .ref (E.2.2.2 161))]) 100 (fun x => [.int x, .int (8 : Int32), .ref (E.2.2.2 162)]) (fun kJ_2 => ?_) (fun x I1 L1 H locs ls hP G hl => ?_)
      · refine lv_icmp_ne (tgt := 94) S.1 S.2.1 dX9_play_77 (by decide) (fun c_3 => ?_) (fun c_3 => ?_)
        · refine lv_aload_n S.1 S.2.1 dX9_play_94 rfl (lv_at hl 2 rfl) ?_
          refine s_get S hX G (i := 161) (kd := 9) (a := mz2) (v := .ref (E.2.2.2 167)) (C := RX9) (T := TX9) (N := 13) 12 (rfl : sh 161 = 9) up_eq rfl rfl (by decide) rfl (fun _ h => (List.mem_cons_of_mem _ (List.mem_append_right _ h))) (by decide) (List.mem_of_getElem? (i := 7) rfl) (fun _ h => h) dX9_play_95 ?_
          refine lv_iload_n S.1 S.2.1 dX9_play_98 rfl (lv_at hl 0 rfl) ?_
          refine s_iald S hX G (i := 167) (kd := 18) (n := 4) (a := lt2) (x := (lt2 0)) (rfl : sh 167 = 18) ((up_ne (by decide)).trans up_eq) rfl (by decide) (by unfold vp_in; decide) (congrArg lt2 (by decide)) dX9_play_99 ?_
          exact kJ_2 (lt2 0) _ _ _ _ _ ⟨(show (lt2 0) = (if lt2 0 = 3 then ((plM g d lx p).1 8) else (lt2 0)) by first | exact (if_pos c_3).symm | exact (if_neg c_3).symm), rfl, rfl⟩ G (lv_sub hl [0, 1, 2] rfl)
        · refine lv_aload_n S.1 S.2.1 dX9_play_80 rfl (lv_at hl 2 rfl) ?_
          refine s_get S hX G (i := 161) (kd := 9) (a := mz2) (v := .ref (E.2.2.2 162)) (C := RX9) (T := TX9) (N := 13) 0 (rfl : sh 161 = 9) up_eq rfl rfl (by decide) rfl (fun _ h => (List.mem_cons_of_mem _ (List.mem_append_right _ h))) (by decide) (List.mem_of_getElem? (i := 2) rfl) (fun _ h => h) dX9_play_81 ?_
          refine lv_iload_n S.1 S.2.1 dX9_play_84 rfl (lv_at hl 0 rfl) ?_
          refine s_callS (As := [.int (0 : Int32)]) (rest := [.ref (E.2.2.2 162), .int (8 : Int32), .ref (E.2.2.2 162)]) S hX G (k_X9_legAt_0 l E) (va_cwS (bytes := cX9_legAt) (maxL := 1) (ret := (some .int)) 1 S.2.2.2.2 gX9_play_X9_legAt rfl rfl rfl (by decide +kernel) ⟨Nat.le_of_ble_eq_true rfl, Nat.le_of_ble_eq_true rfl⟩) rfl hl.1 rfl (Nat.le_of_ble_eq_true rfl) ⟨Nat.zero_le _, Nat.zero_le _⟩ dX9_play_85 (fun v I1 L1 H locs hR G => ?_)
          obtain ⟨hv, hI, hL⟩ := hR
          subst hv
          have G : GS E (up (up (up (up I 163 (recW d wa kp)) 162 ((plM g d lx p).1)) 167 lt2) 161 mz2) (upL (upL L 164 (recS lz (lx 3) kp)) 161 ((plM g d lx p).2.1)) sg H locs := G.same hI hL
          refine W.eq (g2 := F0 mg 88 ls [.int (8 : Int32), .ref (E.2.2.2 162), .int (8 : Int32), .ref (E.2.2.2 162)]) rfl ?_
          refine lv_iconst (v := (0 : Int32)) S.1 S.2.1 dX9_play_88 (by decide) ?_
          refine s_iadd (v := (8 : Int32)) S dX9_play_89 (by decide) ?_
          refine s_iald S hX G (i := 162) (kd := 284) (n := 270) (a := ((plM g d lx p).1)) (x := (((plM g d lx p).1) 8)) (rfl : sh 162 = 284) ((up_ne (by decide)).trans ((up_ne (by decide)).trans up_eq)) rfl (by decide) (by unfold vp_in; decide) (congrArg ((plM g d lx p).1) (by decide)) dX9_play_90 ?_
          refine lv_goto (tgt := 100) S.1 S.2.1 dX9_play_91 (by decide) ?_
          exact kJ_2 (((plM g d lx p).1) 8) _ _ _ _ _ ⟨(show (((plM g d lx p).1) 8) = (if lt2 0 = 3 then ((plM g d lx p).1 8) else (lt2 0)) by first | exact (if_pos c_3).symm | exact (if_neg c_3).symm), rfl, rfl⟩ G (lv_sub hl [0, 1, 2] rfl)
      · obtain ⟨h0, hI, hL⟩ := hP
        have h0 : x = (if lt2 0 = 3 then ((plM g d lx p).1 8) else (lt2 0)) := h0
        have hl : lv_has ls 3 [(2, .int (0 : Int32)), (1, .int (nI m)), (0, .ref (E.2.2.2 161))] := hl
        have h0 := h0.symm
        subst h0
        have G : GS E (up (up (up (up I 163 (recW d wa kp)) 162 ((plM g d lx p).1)) 167 lt2) 161 mz2) (upL (upL L 164 (recS lz (lx 3) kp)) 161 ((plM g d lx p).2.1)) sg H locs := G.same hI hL
        refine W.eq (g2 := F0 mg 100 ls [.int (if lt2 0 = 3 then ((plM g d lx p).1 8) else (lt2 0)), .int (8 : Int32), .ref (E.2.2.2 162)]) rfl ?_
        refine s_iast S hX G (i := 162) (kd := 284) (n := 270) (jn := 8) (a := ((plM g d lx p).1)) (I' := (up (up (up (up I 163 (recW d wa kp)) 167 lt2) 161 mz2) 162 (upd (plM g d lx p).1 8 (if lt2 0 = 3 then ((plM g d lx p).1 8) else (lt2 0))))) (rfl : sh 162 = 284) ((up_ne (by decide)).trans ((up_ne (by decide)).trans up_eq)) (fun _ => rfl) (by decide) (by unfold vp_in; decide) (by decide) (by rw [up_swap (i := 162) (j := 167) (by decide), up_swap (i := 162) (j := 161) (by decide), up_up]) dX9_play_100 (fun H locs G => ?_)
        refine lv_iinc (v := (1 : Int32)) (lv' := [(2, .int (1 : Int32)), (1, .int (nI m)), (0, .ref (E.2.2.2 161))]) S.1 S.2.1 dX9_play_101 hl (k := 0) rfl (by decide) (by decide) rfl (fun ls hl => ?_)
        refine lv_goto (tgt := 55) S.1 S.2.1 dX9_play_104 (by decide) ?_
        refine lv_iload_n S.1 S.2.1 dX9_play_55 rfl (lv_at hl 0 rfl) ?_
        refine lv_iconst (v := (4 : Int32)) S.1 S.2.1 dX9_play_56 (by decide) ?_
        refine lv_icmp_ge (tgt := 107) S.1 S.2.1 dX9_play_57 (by decide) (fun h => absurd h (by decide)) (fun _ => ?_)
        refine lv_aload_n S.1 S.2.1 dX9_play_60 rfl (lv_at hl 2 rfl) ?_
        refine s_get S hX G (i := 161) (kd := 9) (a := mz2) (v := .ref (E.2.2.2 162)) (C := RX9) (T := TX9) (N := 13) 0 (rfl : sh 161 = 9) ((up_ne (by decide)).trans up_eq) rfl rfl (by decide) rfl (fun _ h => (List.mem_cons_of_mem _ (List.mem_append_right _ h))) (by decide) (List.mem_of_getElem? (i := 2) rfl) (fun _ h => h) dX9_play_61 ?_
        refine lv_iload_n S.1 S.2.1 dX9_play_64 rfl (lv_at hl 0 rfl) ?_
        refine s_callS (As := [.int (1 : Int32)]) (rest := [.ref (E.2.2.2 162)]) S hX G (k_X9_legAt_1 l E) (va_cwS (bytes := cX9_legAt) (maxL := 1) (ret := (some .int)) 1 S.2.2.2.2 gX9_play_X9_legAt rfl rfl rfl (by decide +kernel) ⟨Nat.le_of_ble_eq_true rfl, Nat.le_of_ble_eq_true rfl⟩) rfl hl.1 rfl (Nat.le_of_ble_eq_true rfl) ⟨Nat.zero_le _, Nat.zero_le _⟩ dX9_play_65 (fun v I1 L1 H locs hR G => ?_)
        obtain ⟨hv, hI, hL⟩ := hR
        subst hv
        have G : GS E (up (up (up (up I 163 (recW d wa kp)) 167 lt2) 161 mz2) 162 (upd (plM g d lx p).1 8 (if lt2 0 = 3 then ((plM g d lx p).1 8) else (lt2 0)))) (upL (upL L 164 (recS lz (lx 3) kp)) 161 ((plM g d lx p).2.1)) sg H locs := G.same hI hL
        refine W.eq (g2 := F0 mg 68 ls [.int (16 : Int32), .ref (E.2.2.2 162)]) rfl ?_
        refine lv_iconst (v := (0 : Int32)) S.1 S.2.1 dX9_play_68 (by decide) ?_
        refine s_iadd (v := (16 : Int32)) S dX9_play_69 (by decide) ?_
        refine lv_aload_n S.1 S.2.1 dX9_play_70 rfl (lv_at hl 2 rfl) ?_
        refine s_get S hX G (i := 161) (kd := 9) (a := mz2) (v := .ref (E.2.2.2 167)) (C := RX9) (T := TX9) (N := 13) 12 (rfl : sh 161 = 9) ((up_ne (by decide)).trans up_eq) rfl rfl (by decide) rfl (fun _ h => (List.mem_cons_of_mem _ (List.mem_append_right _ h))) (by decide) (List.mem_of_getElem? (i := 7) rfl) (fun _ h => h) dX9_play_71 ?_
        refine lv_iload_n S.1 S.2.1 dX9_play_74 rfl (lv_at hl 0 rfl) ?_
        refine s_iald S hX G (i := 167) (kd := 18) (n := 4) (a := lt2) (x := (lt2 1)) (rfl : sh 167 = 18) ((up_ne (by decide)).trans ((up_ne (by decide)).trans up_eq)) rfl (by decide) (by unfold vp_in; decide) (congrArg lt2 (by decide)) dX9_play_75 ?_
        refine lv_iconst (v := (3 : Int32)) S.1 S.2.1 dX9_play_76 (by decide) ?_
        refine s_cut (α := Int32) (nL := 3) (E := E) (fun x I' L' => x = (if lt2 1 = 3 then ((plM g d lx p).1 16) else (lt2 1)) ∧ I' = (up (up (up (up I 163 (recW d wa kp)) 167 lt2) 161 mz2) 162 (upd (plM g d lx p).1 8 (if lt2 0 = 3 then ((plM g d lx p).1 8) else (lt2 0)))) ∧ L' = (upL (upL L 164 (recS lz (lx 3) kp)) 161 ((plM g d lx p).2.1))) (fun x => [(2, .int (1 : Int32)), (1, .int (nI m)), (0, .ref (E.2.2.2 161))]) 100 (fun x => [.int x, .int (16 : Int32), .ref (E.2.2.2 162)]) (fun kJ_4 => ?_) (fun x I1 L1 H locs ls hP G hl => ?_)
        · refine lv_icmp_ne (tgt := 94) S.1 S.2.1 dX9_play_77 (by decide) (fun c_5 => ?_) (fun c_5 => ?_)
          · refine lv_aload_n S.1 S.2.1 dX9_play_94 rfl (lv_at hl 2 rfl) ?_
            refine s_get S hX G (i := 161) (kd := 9) (a := mz2) (v := .ref (E.2.2.2 167)) (C := RX9) (T := TX9) (N := 13) 12 (rfl : sh 161 = 9) ((up_ne (by decide)).trans up_eq) rfl rfl (by decide) rfl (fun _ h => (List.mem_cons_of_mem _ (List.mem_append_right _ h))) (by decide) (List.mem_of_getElem? (i := 7) rfl) (fun _ h => h) dX9_play_95 ?_
            refine lv_iload_n S.1 S.2.1 dX9_play_98 rfl (lv_at hl 0 rfl) ?_
            refine s_iald S hX G (i := 167) (kd := 18) (n := 4) (a := lt2) (x := (lt2 1)) (rfl : sh 167 = 18) ((up_ne (by decide)).trans ((up_ne (by decide)).trans up_eq)) rfl (by decide) (by unfold vp_in; decide) (congrArg lt2 (by decide)) dX9_play_99 ?_
            exact kJ_4 (lt2 1) _ _ _ _ _ ⟨(show (lt2 1) = (if lt2 1 = 3 then ((plM g d lx p).1 16) else (lt2 1)) by first | exact (if_pos c_5).symm | exact (if_neg c_5).symm), rfl, rfl⟩ G (lv_sub hl [0, 1, 2] rfl)
          · refine lv_aload_n S.1 S.2.1 dX9_play_80 rfl (lv_at hl 2 rfl) ?_
            refine s_get S hX G (i := 161) (kd := 9) (a := mz2) (v := .ref (E.2.2.2 162)) (C := RX9) (T := TX9) (N := 13) 0 (rfl : sh 161 = 9) ((up_ne (by decide)).trans up_eq) rfl rfl (by decide) rfl (fun _ h => (List.mem_cons_of_mem _ (List.mem_append_right _ h))) (by decide) (List.mem_of_getElem? (i := 2) rfl) (fun _ h => h) dX9_play_81 ?_
            refine lv_iload_n S.1 S.2.1 dX9_play_84 rfl (lv_at hl 0 rfl) ?_
            refine s_callS (As := [.int (1 : Int32)]) (rest := [.ref (E.2.2.2 162), .int (16 : Int32), .ref (E.2.2.2 162)]) S hX G (k_X9_legAt_1 l E) (va_cwS (bytes := cX9_legAt) (maxL := 1) (ret := (some .int)) 1 S.2.2.2.2 gX9_play_X9_legAt rfl rfl rfl (by decide +kernel) ⟨Nat.le_of_ble_eq_true rfl, Nat.le_of_ble_eq_true rfl⟩) rfl hl.1 rfl (Nat.le_of_ble_eq_true rfl) ⟨Nat.zero_le _, Nat.zero_le _⟩ dX9_play_85 (fun v I1 L1 H locs hR G => ?_)
            obtain ⟨hv, hI, hL⟩ := hR
            subst hv
            have G : GS E (up (up (up (up I 163 (recW d wa kp)) 167 lt2) 161 mz2) 162 (upd (plM g d lx p).1 8 (if lt2 0 = 3 then ((plM g d lx p).1 8) else (lt2 0)))) (upL (upL L 164 (recS lz (lx 3) kp)) 161 ((plM g d lx p).2.1)) sg H locs := G.same hI hL
            refine W.eq (g2 := F0 mg 88 ls [.int (16 : Int32), .ref (E.2.2.2 162), .int (16 : Int32), .ref (E.2.2.2 162)]) rfl ?_
            refine lv_iconst (v := (0 : Int32)) S.1 S.2.1 dX9_play_88 (by decide) ?_
            refine s_iadd (v := (16 : Int32)) S dX9_play_89 (by decide) ?_
            refine s_iald S hX G (i := 162) (kd := 284) (n := 270) (a := (upd (plM g d lx p).1 8 (if lt2 0 = 3 then ((plM g d lx p).1 8) else (lt2 0)))) (x := (((plM g d lx p).1) 16)) (rfl : sh 162 = 284) up_eq rfl (by decide) (by unfold vp_in; decide) (show (upd (plM g d lx p).1 8 (if lt2 0 = 3 then ((plM g d lx p).1 8) else (lt2 0))) (Int32.toNatClampNeg (16 : Int32)) = (((plM g d lx p).1) 16) from congrArg (upd (plM g d lx p).1 8 (if lt2 0 = 3 then ((plM g d lx p).1 8) else (lt2 0))) (show Int32.toNatClampNeg (16 : Int32) = 16 from (by decide))) dX9_play_90 ?_
            refine lv_goto (tgt := 100) S.1 S.2.1 dX9_play_91 (by decide) ?_
            exact kJ_4 (((plM g d lx p).1) 16) _ _ _ _ _ ⟨(show (((plM g d lx p).1) 16) = (if lt2 1 = 3 then ((plM g d lx p).1 16) else (lt2 1)) by first | exact (if_pos c_5).symm | exact (if_neg c_5).symm), rfl, rfl⟩ G (lv_sub hl [0, 1, 2] rfl)
        · obtain ⟨h0, hI, hL⟩ := hP
          have h0 : x = (if lt2 1 = 3 then ((plM g d lx p).1 16) else (lt2 1)) := h0
          have hl : lv_has ls 3 [(2, .int (1 : Int32)), (1, .int (nI m)), (0, .ref (E.2.2.2 161))] := hl
          have h0 := h0.symm
          subst h0
          have G : GS E (up (up (up (up I 163 (recW d wa kp)) 167 lt2) 161 mz2) 162 (upd (plM g d lx p).1 8 (if lt2 0 = 3 then ((plM g d lx p).1 8) else (lt2 0)))) (upL (upL L 164 (recS lz (lx 3) kp)) 161 ((plM g d lx p).2.1)) sg H locs := G.same hI hL
          refine W.eq (g2 := F0 mg 100 ls [.int (if lt2 1 = 3 then ((plM g d lx p).1 16) else (lt2 1)), .int (16 : Int32), .ref (E.2.2.2 162)]) rfl ?_
          refine s_iast S hX G (i := 162) (kd := 284) (n := 270) (jn := 16) (a := (upd (plM g d lx p).1 8 (if lt2 0 = 3 then ((plM g d lx p).1 8) else (lt2 0)))) (I' := (up (up (up (up I 163 (recW d wa kp)) 167 lt2) 161 mz2) 162 (upd (upd (plM g d lx p).1 8 (if lt2 0 = 3 then ((plM g d lx p).1 8) else (lt2 0))) 16 (if lt2 1 = 3 then ((plM g d lx p).1 16) else (lt2 1))))) (rfl : sh 162 = 284) up_eq (fun _ => rfl) (by decide) (by unfold vp_in; decide) (by decide) (by rw [up_up]) dX9_play_100 (fun H locs G => ?_)
          refine lv_iinc (v := (2 : Int32)) (lv' := [(2, .int (2 : Int32)), (1, .int (nI m)), (0, .ref (E.2.2.2 161))]) S.1 S.2.1 dX9_play_101 hl (k := 0) rfl (by decide) (by decide) rfl (fun ls hl => ?_)
          refine lv_goto (tgt := 55) S.1 S.2.1 dX9_play_104 (by decide) ?_
          refine lv_iload_n S.1 S.2.1 dX9_play_55 rfl (lv_at hl 0 rfl) ?_
          refine lv_iconst (v := (4 : Int32)) S.1 S.2.1 dX9_play_56 (by decide) ?_
          refine lv_icmp_ge (tgt := 107) S.1 S.2.1 dX9_play_57 (by decide) (fun h => absurd h (by decide)) (fun _ => ?_)
          refine lv_aload_n S.1 S.2.1 dX9_play_60 rfl (lv_at hl 2 rfl) ?_
          refine s_get S hX G (i := 161) (kd := 9) (a := mz2) (v := .ref (E.2.2.2 162)) (C := RX9) (T := TX9) (N := 13) 0 (rfl : sh 161 = 9) ((up_ne (by decide)).trans up_eq) rfl rfl (by decide) rfl (fun _ h => (List.mem_cons_of_mem _ (List.mem_append_right _ h))) (by decide) (List.mem_of_getElem? (i := 2) rfl) (fun _ h => h) dX9_play_61 ?_
          refine lv_iload_n S.1 S.2.1 dX9_play_64 rfl (lv_at hl 0 rfl) ?_
          refine s_callS (As := [.int (2 : Int32)]) (rest := [.ref (E.2.2.2 162)]) S hX G (k_X9_legAt_2 l E) (va_cwS (bytes := cX9_legAt) (maxL := 1) (ret := (some .int)) 1 S.2.2.2.2 gX9_play_X9_legAt rfl rfl rfl (by decide +kernel) ⟨Nat.le_of_ble_eq_true rfl, Nat.le_of_ble_eq_true rfl⟩) rfl hl.1 rfl (Nat.le_of_ble_eq_true rfl) ⟨Nat.zero_le _, Nat.zero_le _⟩ dX9_play_65 (fun v I1 L1 H locs hR G => ?_)
          obtain ⟨hv, hI, hL⟩ := hR
          subst hv
          have G : GS E (up (up (up (up I 163 (recW d wa kp)) 167 lt2) 161 mz2) 162 (upd (upd (plM g d lx p).1 8 (if lt2 0 = 3 then ((plM g d lx p).1 8) else (lt2 0))) 16 (if lt2 1 = 3 then ((plM g d lx p).1 16) else (lt2 1)))) (upL (upL L 164 (recS lz (lx 3) kp)) 161 ((plM g d lx p).2.1)) sg H locs := G.same hI hL
          refine W.eq (g2 := F0 mg 68 ls [.int (24 : Int32), .ref (E.2.2.2 162)]) rfl ?_
          refine lv_iconst (v := (0 : Int32)) S.1 S.2.1 dX9_play_68 (by decide) ?_
          refine s_iadd (v := (24 : Int32)) S dX9_play_69 (by decide) ?_
          refine lv_aload_n S.1 S.2.1 dX9_play_70 rfl (lv_at hl 2 rfl) ?_
          refine s_get S hX G (i := 161) (kd := 9) (a := mz2) (v := .ref (E.2.2.2 167)) (C := RX9) (T := TX9) (N := 13) 12 (rfl : sh 161 = 9) ((up_ne (by decide)).trans up_eq) rfl rfl (by decide) rfl (fun _ h => (List.mem_cons_of_mem _ (List.mem_append_right _ h))) (by decide) (List.mem_of_getElem? (i := 7) rfl) (fun _ h => h) dX9_play_71 ?_
          refine lv_iload_n S.1 S.2.1 dX9_play_74 rfl (lv_at hl 0 rfl) ?_
          refine s_iald S hX G (i := 167) (kd := 18) (n := 4) (a := lt2) (x := (lt2 2)) (rfl : sh 167 = 18) ((up_ne (by decide)).trans ((up_ne (by decide)).trans up_eq)) rfl (by decide) (by unfold vp_in; decide) (congrArg lt2 (by decide)) dX9_play_75 ?_
          refine lv_iconst (v := (3 : Int32)) S.1 S.2.1 dX9_play_76 (by decide) ?_
          refine s_cut (α := Int32) (nL := 3) (E := E) (fun x I' L' => x = (if lt2 2 = 3 then ((plM g d lx p).1 24) else (lt2 2)) ∧ I' = (up (up (up (up I 163 (recW d wa kp)) 167 lt2) 161 mz2) 162 (upd (upd (plM g d lx p).1 8 (if lt2 0 = 3 then ((plM g d lx p).1 8) else (lt2 0))) 16 (if lt2 1 = 3 then ((plM g d lx p).1 16) else (lt2 1)))) ∧ L' = (upL (upL L 164 (recS lz (lx 3) kp)) 161 ((plM g d lx p).2.1))) (fun x => [(2, .int (2 : Int32)), (1, .int (nI m)), (0, .ref (E.2.2.2 161))]) 100 (fun x => [.int x, .int (24 : Int32), .ref (E.2.2.2 162)]) (fun kJ_6 => ?_) (fun x I1 L1 H locs ls hP G hl => ?_)
          · refine lv_icmp_ne (tgt := 94) S.1 S.2.1 dX9_play_77 (by decide) (fun c_7 => ?_) (fun c_7 => ?_)
            · refine lv_aload_n S.1 S.2.1 dX9_play_94 rfl (lv_at hl 2 rfl) ?_
              refine s_get S hX G (i := 161) (kd := 9) (a := mz2) (v := .ref (E.2.2.2 167)) (C := RX9) (T := TX9) (N := 13) 12 (rfl : sh 161 = 9) ((up_ne (by decide)).trans up_eq) rfl rfl (by decide) rfl (fun _ h => (List.mem_cons_of_mem _ (List.mem_append_right _ h))) (by decide) (List.mem_of_getElem? (i := 7) rfl) (fun _ h => h) dX9_play_95 ?_
              refine lv_iload_n S.1 S.2.1 dX9_play_98 rfl (lv_at hl 0 rfl) ?_
              refine s_iald S hX G (i := 167) (kd := 18) (n := 4) (a := lt2) (x := (lt2 2)) (rfl : sh 167 = 18) ((up_ne (by decide)).trans ((up_ne (by decide)).trans up_eq)) rfl (by decide) (by unfold vp_in; decide) (congrArg lt2 (by decide)) dX9_play_99 ?_
              exact kJ_6 (lt2 2) _ _ _ _ _ ⟨(show (lt2 2) = (if lt2 2 = 3 then ((plM g d lx p).1 24) else (lt2 2)) by first | exact (if_pos c_7).symm | exact (if_neg c_7).symm), rfl, rfl⟩ G (lv_sub hl [0, 1, 2] rfl)
            · refine lv_aload_n S.1 S.2.1 dX9_play_80 rfl (lv_at hl 2 rfl) ?_
              refine s_get S hX G (i := 161) (kd := 9) (a := mz2) (v := .ref (E.2.2.2 162)) (C := RX9) (T := TX9) (N := 13) 0 (rfl : sh 161 = 9) ((up_ne (by decide)).trans up_eq) rfl rfl (by decide) rfl (fun _ h => (List.mem_cons_of_mem _ (List.mem_append_right _ h))) (by decide) (List.mem_of_getElem? (i := 2) rfl) (fun _ h => h) dX9_play_81 ?_
              refine lv_iload_n S.1 S.2.1 dX9_play_84 rfl (lv_at hl 0 rfl) ?_
              refine s_callS (As := [.int (2 : Int32)]) (rest := [.ref (E.2.2.2 162), .int (24 : Int32), .ref (E.2.2.2 162)]) S hX G (k_X9_legAt_2 l E) (va_cwS (bytes := cX9_legAt) (maxL := 1) (ret := (some .int)) 1 S.2.2.2.2 gX9_play_X9_legAt rfl rfl rfl (by decide +kernel) ⟨Nat.le_of_ble_eq_true rfl, Nat.le_of_ble_eq_true rfl⟩) rfl hl.1 rfl (Nat.le_of_ble_eq_true rfl) ⟨Nat.zero_le _, Nat.zero_le _⟩ dX9_play_85 (fun v I1 L1 H locs hR G => ?_)
              obtain ⟨hv, hI, hL⟩ := hR
              subst hv
              have G : GS E (up (up (up (up I 163 (recW d wa kp)) 167 lt2) 161 mz2) 162 (upd (upd (plM g d lx p).1 8 (if lt2 0 = 3 then ((plM g d lx p).1 8) else (lt2 0))) 16 (if lt2 1 = 3 then ((plM g d lx p).1 16) else (lt2 1)))) (upL (upL L 164 (recS lz (lx 3) kp)) 161 ((plM g d lx p).2.1)) sg H locs := G.same hI hL
              refine W.eq (g2 := F0 mg 88 ls [.int (24 : Int32), .ref (E.2.2.2 162), .int (24 : Int32), .ref (E.2.2.2 162)]) rfl ?_
              refine lv_iconst (v := (0 : Int32)) S.1 S.2.1 dX9_play_88 (by decide) ?_
              refine s_iadd (v := (24 : Int32)) S dX9_play_89 (by decide) ?_
              refine s_iald S hX G (i := 162) (kd := 284) (n := 270) (a := (upd (upd (plM g d lx p).1 8 (if lt2 0 = 3 then ((plM g d lx p).1 8) else (lt2 0))) 16 (if lt2 1 = 3 then ((plM g d lx p).1 16) else (lt2 1)))) (x := (((plM g d lx p).1) 24)) (rfl : sh 162 = 284) up_eq rfl (by decide) (by unfold vp_in; decide) (show (upd (upd (plM g d lx p).1 8 (if lt2 0 = 3 then ((plM g d lx p).1 8) else (lt2 0))) 16 (if lt2 1 = 3 then ((plM g d lx p).1 16) else (lt2 1))) (Int32.toNatClampNeg (24 : Int32)) = (((plM g d lx p).1) 24) from congrArg (upd (upd (plM g d lx p).1 8 (if lt2 0 = 3 then ((plM g d lx p).1 8) else (lt2 0))) 16 (if lt2 1 = 3 then ((plM g d lx p).1 16) else (lt2 1))) (show Int32.toNatClampNeg (24 : Int32) = 24 from (by decide))) dX9_play_90 ?_
              refine lv_goto (tgt := 100) S.1 S.2.1 dX9_play_91 (by decide) ?_
              exact kJ_6 (((plM g d lx p).1) 24) _ _ _ _ _ ⟨(show (((plM g d lx p).1) 24) = (if lt2 2 = 3 then ((plM g d lx p).1 24) else (lt2 2)) by first | exact (if_pos c_7).symm | exact (if_neg c_7).symm), rfl, rfl⟩ G (lv_sub hl [0, 1, 2] rfl)
          · obtain ⟨h0, hI, hL⟩ := hP
            have h0 : x = (if lt2 2 = 3 then ((plM g d lx p).1 24) else (lt2 2)) := h0
            have hl : lv_has ls 3 [(2, .int (2 : Int32)), (1, .int (nI m)), (0, .ref (E.2.2.2 161))] := hl
            have h0 := h0.symm
            subst h0
            have G : GS E (up (up (up (up I 163 (recW d wa kp)) 167 lt2) 161 mz2) 162 (upd (upd (plM g d lx p).1 8 (if lt2 0 = 3 then ((plM g d lx p).1 8) else (lt2 0))) 16 (if lt2 1 = 3 then ((plM g d lx p).1 16) else (lt2 1)))) (upL (upL L 164 (recS lz (lx 3) kp)) 161 ((plM g d lx p).2.1)) sg H locs := G.same hI hL
            refine W.eq (g2 := F0 mg 100 ls [.int (if lt2 2 = 3 then ((plM g d lx p).1 24) else (lt2 2)), .int (24 : Int32), .ref (E.2.2.2 162)]) rfl ?_
            refine s_iast S hX G (i := 162) (kd := 284) (n := 270) (jn := 24) (a := (upd (upd (plM g d lx p).1 8 (if lt2 0 = 3 then ((plM g d lx p).1 8) else (lt2 0))) 16 (if lt2 1 = 3 then ((plM g d lx p).1 16) else (lt2 1)))) (I' := (up (up (up (up I 163 (recW d wa kp)) 167 lt2) 161 mz2) 162 (upd (upd (upd (plM g d lx p).1 8 (if lt2 0 = 3 then ((plM g d lx p).1 8) else (lt2 0))) 16 (if lt2 1 = 3 then ((plM g d lx p).1 16) else (lt2 1))) 24 (if lt2 2 = 3 then ((plM g d lx p).1 24) else (lt2 2))))) (rfl : sh 162 = 284) up_eq (fun _ => rfl) (by decide) (by unfold vp_in; decide) (by decide) (by rw [up_up]) dX9_play_100 (fun H locs G => ?_)
            refine lv_iinc (v := (3 : Int32)) (lv' := [(2, .int (3 : Int32)), (1, .int (nI m)), (0, .ref (E.2.2.2 161))]) S.1 S.2.1 dX9_play_101 hl (k := 0) rfl (by decide) (by decide) rfl (fun ls hl => ?_)
            refine lv_goto (tgt := 55) S.1 S.2.1 dX9_play_104 (by decide) ?_
            refine lv_iload_n S.1 S.2.1 dX9_play_55 rfl (lv_at hl 0 rfl) ?_
            refine lv_iconst (v := (4 : Int32)) S.1 S.2.1 dX9_play_56 (by decide) ?_
            refine lv_icmp_ge (tgt := 107) S.1 S.2.1 dX9_play_57 (by decide) (fun h => absurd h (by decide)) (fun _ => ?_)
            refine lv_aload_n S.1 S.2.1 dX9_play_60 rfl (lv_at hl 2 rfl) ?_
            refine s_get S hX G (i := 161) (kd := 9) (a := mz2) (v := .ref (E.2.2.2 162)) (C := RX9) (T := TX9) (N := 13) 0 (rfl : sh 161 = 9) ((up_ne (by decide)).trans up_eq) rfl rfl (by decide) rfl (fun _ h => (List.mem_cons_of_mem _ (List.mem_append_right _ h))) (by decide) (List.mem_of_getElem? (i := 2) rfl) (fun _ h => h) dX9_play_61 ?_
            refine lv_iload_n S.1 S.2.1 dX9_play_64 rfl (lv_at hl 0 rfl) ?_
            refine s_callS (As := [.int (3 : Int32)]) (rest := [.ref (E.2.2.2 162)]) S hX G (k_X9_legAt_3 l E) (va_cwS (bytes := cX9_legAt) (maxL := 1) (ret := (some .int)) 1 S.2.2.2.2 gX9_play_X9_legAt rfl rfl rfl (by decide +kernel) ⟨Nat.le_of_ble_eq_true rfl, Nat.le_of_ble_eq_true rfl⟩) rfl hl.1 rfl (Nat.le_of_ble_eq_true rfl) ⟨Nat.zero_le _, Nat.zero_le _⟩ dX9_play_65 (fun v I1 L1 H locs hR G => ?_)
            obtain ⟨hv, hI, hL⟩ := hR
            subst hv
            have G : GS E (up (up (up (up I 163 (recW d wa kp)) 167 lt2) 161 mz2) 162 (upd (upd (upd (plM g d lx p).1 8 (if lt2 0 = 3 then ((plM g d lx p).1 8) else (lt2 0))) 16 (if lt2 1 = 3 then ((plM g d lx p).1 16) else (lt2 1))) 24 (if lt2 2 = 3 then ((plM g d lx p).1 24) else (lt2 2)))) (upL (upL L 164 (recS lz (lx 3) kp)) 161 ((plM g d lx p).2.1)) sg H locs := G.same hI hL
            refine W.eq (g2 := F0 mg 68 ls [.int (32 : Int32), .ref (E.2.2.2 162)]) rfl ?_
            refine lv_iconst (v := (0 : Int32)) S.1 S.2.1 dX9_play_68 (by decide) ?_
            refine s_iadd (v := (32 : Int32)) S dX9_play_69 (by decide) ?_
            refine lv_aload_n S.1 S.2.1 dX9_play_70 rfl (lv_at hl 2 rfl) ?_
            refine s_get S hX G (i := 161) (kd := 9) (a := mz2) (v := .ref (E.2.2.2 167)) (C := RX9) (T := TX9) (N := 13) 12 (rfl : sh 161 = 9) ((up_ne (by decide)).trans up_eq) rfl rfl (by decide) rfl (fun _ h => (List.mem_cons_of_mem _ (List.mem_append_right _ h))) (by decide) (List.mem_of_getElem? (i := 7) rfl) (fun _ h => h) dX9_play_71 ?_
            refine lv_iload_n S.1 S.2.1 dX9_play_74 rfl (lv_at hl 0 rfl) ?_
            refine s_iald S hX G (i := 167) (kd := 18) (n := 4) (a := lt2) (x := (lt2 3)) (rfl : sh 167 = 18) ((up_ne (by decide)).trans ((up_ne (by decide)).trans up_eq)) rfl (by decide) (by unfold vp_in; decide) (congrArg lt2 (by decide)) dX9_play_75 ?_
            refine lv_iconst (v := (3 : Int32)) S.1 S.2.1 dX9_play_76 (by decide) ?_
            refine s_cut (α := Int32) (nL := 3) (E := E) (fun x I' L' => x = (if lt2 3 = 3 then ((plM g d lx p).1 32) else (lt2 3)) ∧ I' = (up (up (up (up I 163 (recW d wa kp)) 167 lt2) 161 mz2) 162 (upd (upd (upd (plM g d lx p).1 8 (if lt2 0 = 3 then ((plM g d lx p).1 8) else (lt2 0))) 16 (if lt2 1 = 3 then ((plM g d lx p).1 16) else (lt2 1))) 24 (if lt2 2 = 3 then ((plM g d lx p).1 24) else (lt2 2)))) ∧ L' = (upL (upL L 164 (recS lz (lx 3) kp)) 161 ((plM g d lx p).2.1))) (fun x => [(2, .int (3 : Int32)), (1, .int (nI m)), (0, .ref (E.2.2.2 161))]) 100 (fun x => [.int x, .int (32 : Int32), .ref (E.2.2.2 162)]) (fun kJ_8 => ?_) (fun x I1 L1 H locs ls hP G hl => ?_)
            · refine lv_icmp_ne (tgt := 94) S.1 S.2.1 dX9_play_77 (by decide) (fun c_9 => ?_) (fun c_9 => ?_)
              · refine lv_aload_n S.1 S.2.1 dX9_play_94 rfl (lv_at hl 2 rfl) ?_
                refine s_get S hX G (i := 161) (kd := 9) (a := mz2) (v := .ref (E.2.2.2 167)) (C := RX9) (T := TX9) (N := 13) 12 (rfl : sh 161 = 9) ((up_ne (by decide)).trans up_eq) rfl rfl (by decide) rfl (fun _ h => (List.mem_cons_of_mem _ (List.mem_append_right _ h))) (by decide) (List.mem_of_getElem? (i := 7) rfl) (fun _ h => h) dX9_play_95 ?_
                refine lv_iload_n S.1 S.2.1 dX9_play_98 rfl (lv_at hl 0 rfl) ?_
                refine s_iald S hX G (i := 167) (kd := 18) (n := 4) (a := lt2) (x := (lt2 3)) (rfl : sh 167 = 18) ((up_ne (by decide)).trans ((up_ne (by decide)).trans up_eq)) rfl (by decide) (by unfold vp_in; decide) (congrArg lt2 (by decide)) dX9_play_99 ?_
                exact kJ_8 (lt2 3) _ _ _ _ _ ⟨(show (lt2 3) = (if lt2 3 = 3 then ((plM g d lx p).1 32) else (lt2 3)) by first | exact (if_pos c_9).symm | exact (if_neg c_9).symm), rfl, rfl⟩ G (lv_sub hl [0, 1, 2] rfl)
              · refine lv_aload_n S.1 S.2.1 dX9_play_80 rfl (lv_at hl 2 rfl) ?_
                refine s_get S hX G (i := 161) (kd := 9) (a := mz2) (v := .ref (E.2.2.2 162)) (C := RX9) (T := TX9) (N := 13) 0 (rfl : sh 161 = 9) ((up_ne (by decide)).trans up_eq) rfl rfl (by decide) rfl (fun _ h => (List.mem_cons_of_mem _ (List.mem_append_right _ h))) (by decide) (List.mem_of_getElem? (i := 2) rfl) (fun _ h => h) dX9_play_81 ?_
                refine lv_iload_n S.1 S.2.1 dX9_play_84 rfl (lv_at hl 0 rfl) ?_
                refine s_callS (As := [.int (3 : Int32)]) (rest := [.ref (E.2.2.2 162), .int (32 : Int32), .ref (E.2.2.2 162)]) S hX G (k_X9_legAt_3 l E) (va_cwS (bytes := cX9_legAt) (maxL := 1) (ret := (some .int)) 1 S.2.2.2.2 gX9_play_X9_legAt rfl rfl rfl (by decide +kernel) ⟨Nat.le_of_ble_eq_true rfl, Nat.le_of_ble_eq_true rfl⟩) rfl hl.1 rfl (Nat.le_of_ble_eq_true rfl) ⟨Nat.zero_le _, Nat.zero_le _⟩ dX9_play_85 (fun v I1 L1 H locs hR G => ?_)
                obtain ⟨hv, hI, hL⟩ := hR
                subst hv
                have G : GS E (up (up (up (up I 163 (recW d wa kp)) 167 lt2) 161 mz2) 162 (upd (upd (upd (plM g d lx p).1 8 (if lt2 0 = 3 then ((plM g d lx p).1 8) else (lt2 0))) 16 (if lt2 1 = 3 then ((plM g d lx p).1 16) else (lt2 1))) 24 (if lt2 2 = 3 then ((plM g d lx p).1 24) else (lt2 2)))) (upL (upL L 164 (recS lz (lx 3) kp)) 161 ((plM g d lx p).2.1)) sg H locs := G.same hI hL
                refine W.eq (g2 := F0 mg 88 ls [.int (32 : Int32), .ref (E.2.2.2 162), .int (32 : Int32), .ref (E.2.2.2 162)]) rfl ?_
                refine lv_iconst (v := (0 : Int32)) S.1 S.2.1 dX9_play_88 (by decide) ?_
                refine s_iadd (v := (32 : Int32)) S dX9_play_89 (by decide) ?_
                refine s_iald S hX G (i := 162) (kd := 284) (n := 270) (a := (upd (upd (upd (plM g d lx p).1 8 (if lt2 0 = 3 then ((plM g d lx p).1 8) else (lt2 0))) 16 (if lt2 1 = 3 then ((plM g d lx p).1 16) else (lt2 1))) 24 (if lt2 2 = 3 then ((plM g d lx p).1 24) else (lt2 2)))) (x := (((plM g d lx p).1) 32)) (rfl : sh 162 = 284) up_eq rfl (by decide) (by unfold vp_in; decide) (show (upd (upd (upd (plM g d lx p).1 8 (if lt2 0 = 3 then ((plM g d lx p).1 8) else (lt2 0))) 16 (if lt2 1 = 3 then ((plM g d lx p).1 16) else (lt2 1))) 24 (if lt2 2 = 3 then ((plM g d lx p).1 24) else (lt2 2))) (Int32.toNatClampNeg (32 : Int32)) = (((plM g d lx p).1) 32) from congrArg (upd (upd (upd (plM g d lx p).1 8 (if lt2 0 = 3 then ((plM g d lx p).1 8) else (lt2 0))) 16 (if lt2 1 = 3 then ((plM g d lx p).1 16) else (lt2 1))) 24 (if lt2 2 = 3 then ((plM g d lx p).1 24) else (lt2 2))) (show Int32.toNatClampNeg (32 : Int32) = 32 from (by decide))) dX9_play_90 ?_
                refine lv_goto (tgt := 100) S.1 S.2.1 dX9_play_91 (by decide) ?_
                exact kJ_8 (((plM g d lx p).1) 32) _ _ _ _ _ ⟨(show (((plM g d lx p).1) 32) = (if lt2 3 = 3 then ((plM g d lx p).1 32) else (lt2 3)) by first | exact (if_pos c_9).symm | exact (if_neg c_9).symm), rfl, rfl⟩ G (lv_sub hl [0, 1, 2] rfl)
            · obtain ⟨h0, hI, hL⟩ := hP
              have h0 : x = (if lt2 3 = 3 then ((plM g d lx p).1 32) else (lt2 3)) := h0
              have hl : lv_has ls 3 [(2, .int (3 : Int32)), (1, .int (nI m)), (0, .ref (E.2.2.2 161))] := hl
              have h0 := h0.symm
              subst h0
              have G : GS E (up (up (up (up I 163 (recW d wa kp)) 167 lt2) 161 mz2) 162 (upd (upd (upd (plM g d lx p).1 8 (if lt2 0 = 3 then ((plM g d lx p).1 8) else (lt2 0))) 16 (if lt2 1 = 3 then ((plM g d lx p).1 16) else (lt2 1))) 24 (if lt2 2 = 3 then ((plM g d lx p).1 24) else (lt2 2)))) (upL (upL L 164 (recS lz (lx 3) kp)) 161 ((plM g d lx p).2.1)) sg H locs := G.same hI hL
              refine W.eq (g2 := F0 mg 100 ls [.int (if lt2 3 = 3 then ((plM g d lx p).1 32) else (lt2 3)), .int (32 : Int32), .ref (E.2.2.2 162)]) rfl ?_
              refine s_iast S hX G (i := 162) (kd := 284) (n := 270) (jn := 32) (a := (upd (upd (upd (plM g d lx p).1 8 (if lt2 0 = 3 then ((plM g d lx p).1 8) else (lt2 0))) 16 (if lt2 1 = 3 then ((plM g d lx p).1 16) else (lt2 1))) 24 (if lt2 2 = 3 then ((plM g d lx p).1 24) else (lt2 2)))) (I' := (up (up (up (up I 163 (recW d wa kp)) 167 lt2) 161 mz2) 162 (upd (upd (upd (upd (plM g d lx p).1 8 (if lt2 0 = 3 then ((plM g d lx p).1 8) else (lt2 0))) 16 (if lt2 1 = 3 then ((plM g d lx p).1 16) else (lt2 1))) 24 (if lt2 2 = 3 then ((plM g d lx p).1 24) else (lt2 2))) 32 (if lt2 3 = 3 then ((plM g d lx p).1 32) else (lt2 3))))) (rfl : sh 162 = 284) up_eq (fun _ => rfl) (by decide) (by unfold vp_in; decide) (by decide) (by rw [up_up]) dX9_play_100 (fun H locs G => ?_)
              refine lv_iinc (v := (4 : Int32)) (lv' := [(2, .int (4 : Int32)), (1, .int (nI m)), (0, .ref (E.2.2.2 161))]) S.1 S.2.1 dX9_play_101 hl (k := 0) rfl (by decide) (by decide) rfl (fun ls hl => ?_)
              refine lv_goto (tgt := 55) S.1 S.2.1 dX9_play_104 (by decide) ?_
              refine lv_iload_n S.1 S.2.1 dX9_play_55 rfl (lv_at hl 0 rfl) ?_
              refine lv_iconst (v := (4 : Int32)) S.1 S.2.1 dX9_play_56 (by decide) ?_
              refine lv_icmp_ge (tgt := 107) S.1 S.2.1 dX9_play_57 (by decide) (fun _ => ?_) (fun h => absurd (by decide) h)
              obtain ⟨M, hM, hM1, hM2⟩ := (rd_ok hlt hok).2.2.2.1
              have hc4 : cmdsM (c4F (plM g d lx p).1 lt2) := c4_cmds hcp hlt2 hok.1
              have G : GS E (up (up (up (up I 163 (recW d wa kp)) 167 lt2) 161 mz2) 162 (c4F (plM g d lx p).1 lt2)) (upL (upL L 164 (recS lz (lx 3) kp)) 161 ((plM g d lx p).2.1)) sg H locs := G
              refine lv_iconst (v := (0 : Int32)) S.1 S.2.1 dX9_play_107 (by decide) ?_
              refine lv_istore_n (lv' := [(2, .int (0 : Int32)), (1, .int (nI m)), (0, .ref (E.2.2.2 161))]) S.1 S.2.1 dX9_play_108 rfl hl (by decide) rfl (fun ls hl => ?_)
              refine s_loop (α := Nat) (nL := 3) (E := E) (fun nn x I' L' => nn = M - x ∧ x ≤ M ∧ I' = (up (up (up (up I 163 (recW d wa kp)) 167 lt2) 161 mz2) 162 (gsN (c4F (plM g d lx p).1 lt2) x)) ∧ L' = (upL (upL L 164 (recS lz (lx 3) kp)) 161 (gsNX (c4F (plM g d lx p).1 lt2) ((plM g d lx p).2.1) x))) (fun x => [(2, .int (nI x)), (1, .int (nI m)), (0, .ref (E.2.2.2 161))]) 109 (fun x => []) (fun nn ih_10 x I1 L1 H locs ls hP G hl => ?_) _ 0 ⟨rfl, (Nat.zero_le _), rfl, rfl⟩ G (lv_sub hl [0, 1, 2] rfl)
              obtain ⟨k, rfl⟩ : ∃ z, z = x := ⟨x, rfl⟩
              obtain ⟨hn, hk, hIc, hLc⟩ := hP
              have hn : nn = M - k := hn
              obtain ⟨I_b, rfl⟩ : ∃ z, z = I1 := ⟨I1, rfl⟩
              obtain ⟨L_b, rfl⟩ : ∃ z, z = L1 := ⟨L1, rfl⟩
              have hk : k ≤ M := hk
              have hIc : I_b = (up (up (up (up I 163 (recW d wa kp)) 167 lt2) 161 mz2) 162 (gsN (c4F (plM g d lx p).1 lt2) k)) := hIc
              have hLc : L_b = (upL (upL L 164 (recS lz (lx 3) kp)) 161 (gsNX (c4F (plM g d lx p).1 lt2) ((plM g d lx p).2.1) k)) := hLc
              have hl : lv_has ls 3 [(2, .int (nI k)), (1, .int (nI m)), (0, .ref (E.2.2.2 161))] := hl
              refine W.eq (g2 := F0 mg 109 ls []) rfl ?_
              have G : GS E (up (up (up (up I 163 (recW d wa kp)) 167 lt2) 161 mz2) 162 (gsN (c4F (plM g d lx p).1 lt2) k)) (upL (upL L 164 (recS lz (lx 3) kp)) 161 (gsNX (c4F (plM g d lx p).1 lt2) ((plM g d lx p).2.1) k)) sg H locs := G.same hIc hLc
              rcases Nat.lt_or_ge k M with hlt | hge
              · have hlt : k < M := hlt
                refine lv_iload_n S.1 S.2.1 dX9_play_109 rfl (lv_at hl 0 rfl) ?_
                refine lv_aload_n S.1 S.2.1 dX9_play_110 rfl (lv_at hl 2 rfl) ?_
                refine s_get S hX G (i := 161) (kd := 9) (a := mz2) (v := .int (mz2 11)) (C := RX9) (T := TX9) (N := 13) 11 (rfl : sh 161 = 9) ((up_ne (by decide)).trans up_eq) rfl rfl (by decide) rfl (fun _ h => (List.mem_cons_of_mem _ (List.mem_append_right _ h))) (by decide) (List.mem_of_getElem? (i := 8) rfl) (fun _ h => h) dX9_play_111 ?_
                refine s_conv (y := (nI M)) hM ?_
                refine lv_icmp_ge (tgt := 128) S.1 S.2.1 dX9_play_114 (by decide) (fun h => absurd h (nI_ge hlt (by omega))) (fun _ => ?_)
                refine lv_aload_n S.1 S.2.1 dX9_play_117 rfl (lv_at hl 2 rfl) ?_
                refine s_callV (C := RX9) (As := []) (rest := []) (i := 161) (kd := 9) S hX G (k_X9_goes2 l E (gsN (c4F (plM g d lx p).1 lt2) k) (gsNX (c4F (plM g d lx p).1 lt2) ((plM g d lx p).2.1) k) up_eq upL_eq (cmdsN (n := k) hc4)) (cwV (bytes := cX9_goes) (maxL := 4) (ret := (some .int)) 0 S.2.2.2.2 gX9_play_X9_goes rfl rfl rfl (by decide +kernel) ⟨Nat.le_of_ble_eq_true rfl, Nat.le_of_ble_eq_true rfl⟩) (rfl : sh 161 = 9) rfl rfl rfl (by decide) rfl hl.1 rfl (Nat.le_of_ble_eq_true rfl) ⟨Nat.zero_le _, Nat.zero_le _⟩ dX9_play_118 (fun v I1 L1 H locs hR G => ?_)
                obtain ⟨hv, hI, hL⟩ := hR
                subst hv
                have hI : I1 = (up (up (up (up (up I 163 (recW d wa kp)) 167 lt2) 161 mz2) 162 (gsN (c4F (plM g d lx p).1 lt2) k)) 162 (gsN (c4F (plM g d lx p).1 lt2) (k + 1))) := hI
                have hL : L1 = (upL (upL (upL L 164 (recS lz (lx 3) kp)) 161 (gsNX (c4F (plM g d lx p).1 lt2) ((plM g d lx p).2.1) k)) 161 (gsNX (c4F (plM g d lx p).1 lt2) ((plM g d lx p).2.1) (k + 1))) := hL
                have G : GS E (up (up (up (up I 163 (recW d wa kp)) 167 lt2) 161 mz2) 162 (gsN (c4F (plM g d lx p).1 lt2) (k + 1))) (upL (upL L 164 (recS lz (lx 3) kp)) 161 (gsNX (c4F (plM g d lx p).1 lt2) ((plM g d lx p).2.1) (k + 1))) sg H locs := G.same (hI.trans (by rw [up_up])) (hL.trans (by rw [upL_upL]))
                refine W.eq (g2 := F0 mg 121 ls [.int (gsR (gsN (c4F (plM g d lx p).1 lt2) k))]) rfl ?_
                refine lv_pop S.1 S.2.1 dX9_play_121 rfl ?_
                refine lv_iinc (v := (nI (k + 1))) (lv' := [(2, .int (nI (k + 1))), (1, .int (nI m)), (0, .ref (E.2.2.2 161))]) S.1 S.2.1 dX9_play_122 hl (k := 0) rfl (nI_1 k) (by decide) rfl (fun ls hl => ?_)
                refine lv_goto (tgt := 109) S.1 S.2.1 dX9_play_125 (by decide) ?_
                exact ih_10 _ (show M - (k + 1) < nn by omega) (k + 1) _ _ _ _ _ ⟨rfl, (by omega), rfl, rfl⟩ G (lv_sub hl [0, 1, 2] rfl)
              · have hkn : M = k := by omega
                subst hkn
                refine lv_iload_n S.1 S.2.1 dX9_play_109 rfl (lv_at hl 0 rfl) ?_
                refine lv_aload_n S.1 S.2.1 dX9_play_110 rfl (lv_at hl 2 rfl) ?_
                refine s_get S hX G (i := 161) (kd := 9) (a := mz2) (v := .int (mz2 11)) (C := RX9) (T := TX9) (N := 13) 11 (rfl : sh 161 = 9) ((up_ne (by decide)).trans up_eq) rfl rfl (by decide) rfl (fun _ h => (List.mem_cons_of_mem _ (List.mem_append_right _ h))) (by decide) (List.mem_of_getElem? (i := 8) rfl) (fun _ h => h) dX9_play_111 ?_
                refine s_conv (y := (nI M)) hM ?_
                refine lv_icmp_ge (tgt := 128) S.1 S.2.1 dX9_play_114 (by decide) (fun _ => ?_) (fun h => absurd (nI_le (by omega) (by omega)) h)
                refine lv_goto (tgt := 37) S.1 S.2.1 dX9_play_128 (by decide) ?_
                exact ih_1 _ (by have := rd_ok hlt hok; omega) (p2, mz2, lt2) _ _ _ _ _ ⟨rfl, (rd_ok hlt hok).2.1, hmz2, h92, ((rd_ok hlt hok).2.2.1.symm.trans hfp), (by rw [(plM_part (d := d) (lx := lx) hlt hok hM (by omega) hlg hlt2)]), (by rw [(plM_part (d := d) (lx := lx) hlt hok hM (by omega) hlg hlt2)]; exact cmdsN hc4), (by first | (rw [(plM_part (d := d) (lx := lx) hlt hok hM (by omega) hlg hlt2)]; done) | (rw [(plM_part (d := d) (lx := lx) hlt hok hM (by omega) hlg hlt2)]; exact rfl)), (by first | (rw [(plM_part (d := d) (lx := lx) hlt hok hM (by omega) hlg hlt2)]; done) | (rw [(plM_part (d := d) (lx := lx) hlt hok hM (by omega) hlg hlt2)]; exact rfl))⟩ G (lv_sub hl [1, 2] rfl)
    · exact absurd (Eq.trans (rd_no hlt hno).1.symm (Eq.trans hfp ht)) (nI_ne_m1 (by have := (rd_no hlt hno).2; omega))
  · have hpn : n = p := by omega
    subst hpn
    refine lv_aload_n S.1 S.2.1 dX9_play_37 rfl (lv_at hl 1 rfl) ?_
    refine s_get S hX G (i := 161) (kd := 9) (a := mz) (v := .int (mz 9)) (C := RX9) (T := TX9) (N := 13) 9 (rfl : sh 161 = 9) ((up_ne (by decide)).trans up_eq) rfl rfl (by decide) rfl (fun _ h => (List.mem_cons_of_mem _ (List.mem_append_right _ h))) (by decide) (List.mem_of_getElem? (i := 5) rfl) (fun _ h => h) dX9_play_38 ?_
    refine s_conv (y := (nI n)) h9 ?_
    refine lv_aload_n S.1 S.2.1 dX9_play_41 rfl (lv_at hl 1 rfl) ?_
    refine s_get S hX G (i := 161) (kd := 9) (a := mz) (v := .int (mz 8)) (C := RX9) (T := TX9) (N := 13) 8 (rfl : sh 161 = 9) ((up_ne (by decide)).trans up_eq) rfl rfl (by decide) rfl (fun _ h => (List.mem_cons_of_mem _ (List.mem_append_right _ h))) (by decide) (List.mem_of_getElem? (i := 6) rfl) (fun _ h => h) dX9_play_42 ?_
    refine s_conv (y := (nI n)) (Eq.trans (hmz 8 (by decide) (by decide) (by decide)) (Eq.trans (hmw 8 (by decide) (by decide) (by decide)) hx8)) ?_
    refine lv_icmp_ge (tgt := 131) S.1 S.2.1 dX9_play_45 (by decide) (fun _ => ?_) (fun h => absurd (nI_le (by omega) (by omega)) h)
    refine lv_iload_n S.1 S.2.1 dX9_play_131 rfl (lv_at hl 0 rfl) ?_
    refine s_iret (x := (nI m)) S G hr hlk dX9_play_132 ?_
    exact ⟨rfl, mz, lt, rfl, rfl, hmz 2 (by decide) (by decide) (by decide), (Eq.trans (hmz 8 (by decide) (by decide) (by decide)) (Eq.trans (hmw 8 (by decide) (by decide) (by decide)) hx8))⟩
