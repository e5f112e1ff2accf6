def gsNX (d : Nat → Int32) (lx : Nat → Int64) : Nat → Nat → Int64
  | 0 => lx
  | n + 1 => vp_updL (gsNX d lx n) 3 (gsL (gsN d n) (gsNX d lx n 3))
theorem inR {n a b : Nat} (h1 : a ≤ n) (h2 : n ≤ b) (hb : b < 2 ^ 31) : ¬ nI n < nI a ∧ ¬ nI b < nI n := ⟨nI_nlt h1 (by omega), nI_nlt h2 (by omega)⟩
theorem ofR {x : Int32} {a b : Nat} (hb : b < 2 ^ 31) (hab : a ≤ b) (h : ¬ x < nI a ∧ ¬ nI b < x) : ∃ n, a ≤ n ∧ n ≤ b ∧ x = nI n := by
  have h1 : ¬ x.toInt < (nI a).toInt := fun q => h.1 (Int32.lt_iff_toInt_lt.mpr q)
  have h2 : ¬ (nI b).toInt < x.toInt := fun q => h.2 (Int32.lt_iff_toInt_lt.mpr q)
  rw [nI_toInt (by omega)] at h1
  rw [nI_toInt hb] at h2
  refine ⟨x.toInt.toNat, by omega, by omega, Int32.toInt_inj.mp ?_⟩
  rw [nI_toInt (by omega)]
  omega
theorem k_X9_goes2 (l : Launch) (E : Ev) {I : SI} {L : SL} (d : Nat → Int32) (lx : Nat → Int64) (e_d : I (162) = d) (e_lx : L (161) = lx) (hc : cmdsM d) : CS l yX9_goes wsX9_goes ({ frames := 4, cells := 0, slots := 0, locals := 89 }) E [.ref (E.2.2.2 161)] I L (fun vv I' L' => vv = some (.int (gsR d)) ∧ I' = (up I (162) (gs d)) ∧ L' = (upL L (161) (vp_updL lx 3 (gsL d (lx 3))))) := by
  exact k_X9_goes l E d lx e_d e_lx hc.1 hc.2.1 hc.2.2.1 hc.2.2.2
theorem upL_self {L : SL} {i : Nat} : upL L i (L i) = L := by
  funext k
  unfold upL
  by_cases hk : k = i <;> simp [hk]
theorem upL_same {L : SL} {c : Nat} {r : Nat → Int64} (h : L c = r) : L = upL L c r := by
  rw [← h, upL_self]
theorem cmds_cp {d az : Nat → Int32} (h : cmdsM d) : cmdsM (va_cpy d az 0 0 270) := by
  unfold cmdsM va_cpy
  exact h
set_option maxHeartbeats 4000000 in
set_option maxRecDepth 100000 in
theorem k_X9_go_ok (l : Launch) (E : Ev) {I : SI} {L : SL} (n : Nat) (mx : Nat → Int32) (d : Nat → Int32) (wa : Nat → Int32) (lx : Nat → Int64) (lz : Nat → Int64) (kp k0 : Nat) (e_mx : I (161) = mx) (e_d : I (162) = d) (e_wa : I (163) = wa) (e_lx : L (161) = lx) (e_lz : L (164) = lz) (hx : mx 2 = nI kp) (hkp : kp ≤ 4) (hd : d 0 = nI k0) (h1 : 1 ≤ n) (h2 : n ≤ 1000) (h3 : k0 + n ≤ 100000) (hc : cmdsM d) : CS l yX9_go wsX9_go ({ frames := 5, cells := 0, slots := 0, locals := 112 }) E [.ref (E.2.2.2 161), .int (nI n)] I L (fun vv I' L' => vv = some (.int (gsNR d n)) ∧ I' = (up (up (up I (161) (upd mx 2 (nI (recK kp)))) (163) (recW d wa kp)) (162) (gsN d n)) ∧ L' = (upL (upL L (164) (recS lz (lx 3) kp)) (161) (gsNX d lx n))) := by
  refine CS.of (cc := cX9_go) (maxL := 4) (ret := (some .int)) (by decide) rfl (Nat.le_of_ble_eq_true rfl) ?_
  intro pg en sg mg below meth cg ls S hr hlk hX G hl
  have S : CallFix pg mg cg cX9_go 4 sg _ wsX9_go RX9 := S
  have hl : lv_has ls 4 [(0, .ref (E.2.2.2 161)), (1, .int (nI n))] := hl
  refine lv_iload_n S.1 S.2.1 dX9_go_0 rfl (lv_at hl 1 rfl) ?_
  refine lv_i2l (v := (Int32.toInt64 (nI n))) S.1 S.2.1 dX9_go_1 rfl ?_
  refine lv_lconst (v := (1 : Int64)) S.1 S.2.1 dX9_go_2 (by decide) ?_
  refine lv_ldc2 (v := (1000 : Int64)) S.1 S.2.1 S.2.2.2.1 (S.2.2.2.2 _ (List.mem_of_getElem? (i := 1) rfl)) dX9_go_3 ?_
  refine s_callS (As := [.long (Int32.toInt64 (nI n)), .long (1 : Int64), .long (1000 : Int64)]) (rest := []) S hX G (k_X9_in l E (Int32.toInt64 (nI n)) (1 : Int64) (1000 : Int64)) (va_cwS (bytes := cX9_in) (maxL := 6) (ret := (some .boolean)) 3 S.2.2.2.2 gX9_go_X9_in rfl rfl rfl (by decide +kernel) ⟨Nat.le_of_ble_eq_true rfl, Nat.le_of_ble_eq_true rfl⟩) rfl hl.1 rfl (Nat.le_of_ble_eq_true rfl) ⟨Nat.zero_le _, Nat.zero_le _⟩ dX9_go_6 (fun v I1 L1 H locs hR G => ?_)
  obtain ⟨hv, hI, hL⟩ := hR
  subst hv
  have G : GS E I L sg H locs := G.same hI hL
  refine W.eq (g2 := F0 mg 9 ls [.int (if ¬ (Int32.toInt64 (nI n)) < (1 : Int64) ∧ ¬ (1000 : Int64) < (Int32.toInt64 (nI n)) then 1 else 0)]) rfl ?_
  refine s_if_ne_b (P := ¬ (Int32.toInt64 (nI n)) < (1 : Int64) ∧ ¬ (1000 : Int64) < (Int32.toInt64 (nI n))) (tgt := 15) S dX9_go_9 (by decide) (fun _ => ?_) (fun h => absurd (in64 (a := nI 1) (b := nI 1000) (inR h1 h2 (by decide)) (by decide) (by decide)) h)
  refine lv_aload_n S.1 S.2.1 dX9_go_15 rfl (lv_at hl 0 rfl) ?_
  refine s_get S hX G (i := 161) (kd := 9) (a := mx) (v := .ref (E.2.2.2 162)) (C := RX9) (T := TX9) (N := 13) 0 (rfl : sh 161 = 9) e_mx rfl rfl (by decide) rfl (fun _ h => (List.mem_cons_of_mem _ (List.mem_append_right _ h))) (by decide) (List.mem_of_getElem? (i := 3) rfl) (fun _ h => h) dX9_go_16 ?_
  refine lv_iconst (v := (0 : Int32)) S.1 S.2.1 dX9_go_19 (by decide) ?_
  refine s_iald S hX G (i := 162) (kd := 284) (n := 270) (a := d) (x := (d 0)) (rfl : sh 162 = 284) e_d rfl (by decide) (by unfold vp_in; decide) (congrArg d (by decide)) dX9_go_20 ?_
  refine s_conv (y := (nI k0)) hd ?_
  refine lv_iload_n S.1 S.2.1 dX9_go_21 rfl (lv_at hl 1 rfl) ?_
  refine s_iadd (v := (nI (k0 + n))) S dX9_go_22 (nI_add k0 n) ?_
  refine lv_ldc (v := (100000 : Int32)) S.1 S.2.1 S.2.2.2.1 (S.2.2.2.2 _ (List.mem_of_getElem? (i := 4) rfl)) dX9_go_23 ?_
  refine lv_icmp_le (tgt := 31) S.1 S.2.1 dX9_go_25 (by decide) (fun _ => ?_) (fun h => absurd (nI_le (b := 100000) h3 (by decide)) h)
  refine lv_aload_n S.1 S.2.1 dX9_go_31 rfl (lv_at hl 0 rfl) ?_
  refine s_callV (C := RX9) (As := []) (rest := []) (i := 161) (kd := 9) S hX G (k_X9_records l E mx d wa lx lz kp e_mx e_d e_wa e_lx e_lz hx hkp) (cwV (bytes := cX9_records) (maxL := 2) (ret := none) 0 S.2.2.2.2 gX9_go_X9_records rfl rfl rfl (by decide +kernel) ⟨Nat.le_of_ble_eq_true rfl, Nat.le_of_ble_eq_true rfl⟩) (rfl : sh 161 = 9) rfl rfl rfl (by decide) rfl hl.1 rfl (Nat.le_of_ble_eq_true rfl) ⟨Nat.zero_le _, Nat.zero_le _⟩ dX9_go_32 (fun v I1 L1 H locs hR G => ?_)
  obtain ⟨hv, hI, hL⟩ := hR
  subst hv
  obtain ⟨r_1, er_1⟩ : ∃ r : Nat → Int32, r = (upd mx 2 (nI (recK kp))) := ⟨_, rfl⟩
  rw [← er_1] at hI
  obtain ⟨r_2, er_2⟩ : ∃ r : Nat → Int32, r = (recW d wa kp) := ⟨_, rfl⟩
  rw [← er_2] at hI
  obtain ⟨r_3, er_3⟩ : ∃ r : Nat → Int64, r = (recS lz (lx 3) kp) := ⟨_, rfl⟩
  rw [← er_3] at hL
  have G : GS E (up (up I 161 r_1) 163 r_2) (upL L 164 r_3) sg H locs := G.same hI hL
  refine W.eq (g2 := F0 mg 35 ls []) rfl ?_
  refine lv_iconst (v := (0 : Int32)) S.1 S.2.1 dX9_go_35 (by decide) ?_
  refine lv_istore_n (lv' := [(2, .int (0 : Int32)), (0, .ref (E.2.2.2 161)), (1, .int (nI n))]) S.1 S.2.1 dX9_go_36 rfl hl (by decide) rfl (fun ls hl => ?_)
  refine lv_iconst (v := (0 : Int32)) S.1 S.2.1 dX9_go_37 (by decide) ?_
  refine lv_istore_n (lv' := [(3, .int (0 : Int32)), (2, .int (0 : Int32)), (0, .ref (E.2.2.2 161)), (1, .int (nI n))]) S.1 S.2.1 dX9_go_38 rfl hl (by decide) rfl (fun ls hl => ?_)
  refine s_loop (α := Nat × Int32) (nL := 4) (E := E) (fun nn x I' L' => nn = n - x.1 ∧ x.1 ≤ n ∧ x.2 = gsNR d x.1 ∧ I' = (up (up (up I 161 r_1) 163 r_2) 162 (gsN d x.1)) ∧ L' = (upL (upL L 164 r_3) 161 (gsNX d lx x.1))) (fun x => [(3, .int (nI x.1)), (2, .int x.2), (0, .ref (E.2.2.2 161)), (1, .int (nI n))]) 39 (fun x => []) (fun nn ih_4 x I1 L1 H locs ls hP G hl => ?_) _ (0, 0) ⟨rfl, (Nat.zero_le _), rfl, (up_same ((up_ne (by decide)).trans ((up_ne (by decide)).trans e_d))), (upL_same ((upL_ne (by decide)).trans e_lx))⟩ G (lv_sub hl [0, 1, 2, 3] rfl)
  obtain ⟨k, r⟩ := x
  obtain ⟨hn, hk, hrr, hIc, hLc⟩ := hP
  have hn : nn = n - k := hn
  obtain ⟨I_b, rfl⟩ : ∃ z, z = I1 := ⟨I1, rfl⟩
  obtain ⟨L_b, rfl⟩ : ∃ z, z = L1 := ⟨L1, rfl⟩
  have hk : k ≤ n := hk
  have hrr : r = gsNR d k := hrr
  have hIc : I_b = (up (up (up I 161 r_1) 163 r_2) 162 (gsN d k)) := hIc
  have hLc : L_b = (upL (upL L 164 r_3) 161 (gsNX d lx k)) := hLc
  have hl : lv_has ls 4 [(3, .int (nI k)), (2, .int r), (0, .ref (E.2.2.2 161)), (1, .int (nI n))] := hl
  refine W.eq (g2 := F0 mg 39 ls []) rfl ?_
  have G : GS E (up (up (up I 161 r_1) 163 r_2) 162 (gsN d k)) (upL (upL L 164 r_3) 161 (gsNX d lx k)) sg H locs := G.same hIc hLc
  rcases Nat.lt_or_ge k n with hlt | hge
  · have hlt : k < n := hlt
    refine lv_iload_n S.1 S.2.1 dX9_go_39 rfl (lv_at hl 0 rfl) ?_
    refine lv_iload_n S.1 S.2.1 dX9_go_40 rfl (lv_at hl 3 rfl) ?_
    refine lv_icmp_ge (tgt := 57) S.1 S.2.1 dX9_go_41 (by decide) (fun h => absurd h (nI_ge hlt (by omega))) (fun _ => ?_)
    refine lv_iload_n S.1 S.2.1 dX9_go_44 rfl (lv_at hl 1 rfl) ?_
    refine lv_aload_n S.1 S.2.1 dX9_go_45 rfl (lv_at hl 2 rfl) ?_
    refine s_callV (C := RX9) (As := []) (rest := [.int r]) (i := 161) (kd := 9) S hX G (k_X9_goes2 l E (gsN d k) (gsNX d lx k) up_eq upL_eq (cmdsN (n := k) hc)) (cwV (bytes := cX9_goes) (maxL := 4) (ret := (some .int)) 0 S.2.2.2.2 gX9_go_X9_goes rfl rfl rfl (by decide +kernel) ⟨Nat.le_of_ble_eq_true rfl, Nat.le_of_ble_eq_true rfl⟩) (rfl : sh 161 = 9) rfl rfl rfl (by decide) rfl hl.1 rfl (Nat.le_of_ble_eq_true rfl) ⟨Nat.zero_le _, Nat.zero_le _⟩ dX9_go_46 (fun v I1 L1 H locs hR G => ?_)
    obtain ⟨hv, hI, hL⟩ := hR
    subst hv
    have hI : I1 = (up (up (up (up I 161 r_1) 163 r_2) 162 (gsN d k)) 162 (gsN d (k + 1))) := hI
    have hL : L1 = (upL (upL (upL L 164 r_3) 161 (gsNX d lx k)) 161 (gsNX d lx (k + 1))) := hL
    have G : GS E (up (up (up I 161 r_1) 163 r_2) 162 (gsN d (k + 1))) (upL (upL L 164 r_3) 161 (gsNX d lx (k + 1))) sg H locs := G.same (hI.trans (by rw [up_up])) (hL.trans (by rw [upL_upL]))
    refine W.eq (g2 := F0 mg 49 ls [.int (gsR (gsN d k)), .int r]) rfl ?_
    refine s_iadd (v := (r + (gsR (gsN d k)))) S dX9_go_49 rfl ?_
    refine lv_istore_n (lv' := [(2, .int (r + (gsR (gsN d k)))), (3, .int (nI k)), (0, .ref (E.2.2.2 161)), (1, .int (nI n))]) S.1 S.2.1 dX9_go_50 rfl hl (by decide) rfl (fun ls hl => ?_)
    refine lv_iinc (v := (nI (k + 1))) (lv' := [(3, .int (nI (k + 1))), (2, .int (r + (gsR (gsN d k)))), (0, .ref (E.2.2.2 161)), (1, .int (nI n))]) S.1 S.2.1 dX9_go_51 hl (k := 1) rfl (nI_1 k) (by decide) rfl (fun ls hl => ?_)
    refine lv_goto (tgt := 39) S.1 S.2.1 dX9_go_54 (by decide) ?_
    exact ih_4 _ (show n - (k + 1) < nn by omega) ((k + 1), ((r + (gsR (gsN d k))))) _ _ _ _ _ ⟨rfl, (by omega), (by rw [hrr]; rfl), rfl, rfl⟩ G (lv_sub hl [0, 1, 2, 3] rfl)
  · have hkn : n = k := by omega
    subst hkn
    refine lv_iload_n S.1 S.2.1 dX9_go_39 rfl (lv_at hl 0 rfl) ?_
    refine lv_iload_n S.1 S.2.1 dX9_go_40 rfl (lv_at hl 3 rfl) ?_
    refine lv_icmp_ge (tgt := 57) S.1 S.2.1 dX9_go_41 (by decide) (fun _ => ?_) (fun h => absurd (nI_le (by omega) (by omega)) h)
    refine lv_iload_n S.1 S.2.1 dX9_go_57 rfl (lv_at hl 1 rfl) ?_
    refine s_iret (x := r) S G hr hlk dX9_go_58 ?_
    exact ⟨(congrArg (fun q : Int32 => some (Value.int q)) (show r = (gsNR d n) by subst er_3 er_2 er_1; exact hrr)), (st_eq3 (Eq.trans ((up_ne (by decide)).trans ((up_ne (by decide)).trans up_eq)) (show r_1 = (upd mx 2 (nI (recK kp))) by subst er_3 er_2 er_1; rfl)) (Eq.trans ((up_ne (by decide)).trans up_eq) (show r_2 = (recW d wa kp) by subst er_3 er_2 er_1; rfl)) up_eq (fun _ g0 g1 g2 => ((up_ne g2).trans ((up_ne g1).trans (up_ne g0))))), (lt_eq2 (Eq.trans ((upL_ne (by decide)).trans upL_eq) (show r_3 = (recS lz (lx 3) kp) by subst er_3 er_2 er_1; rfl)) upL_eq (fun _ g0 g1 => ((upL_ne g1).trans (upL_ne g0))))⟩
set_option maxHeartbeats 4000000 in
set_option maxRecDepth 100000 in
theorem k_X9_go_lim (l : Launch) (E : Ev) {I : SI} {L : SL} (n : Nat) (d : Nat → Int32) (k0 : Nat) (e_d : I (162) = d) (hd : d 0 = nI k0) (h1 : 1 ≤ n) (h2 : n ≤ 1000) (h3 : 100000 < k0 + n) (hk0 : k0 < 2 ^ 30) : CS l yX9_go wsX9_go ({ frames := 1, cells := 0, slots := 0, locals := 25 }) E [.ref (E.2.2.2 161), .int (nI n)] I L (fun vv I' L' => vv = some (.int (-2000000003 : Int32)) ∧ I' = I ∧ L' = L) := by
  refine CS.of (cc := cX9_go) (maxL := 4) (ret := (some .int)) (by decide) rfl (Nat.le_of_ble_eq_true rfl) ?_
  intro pg en sg mg below meth cg ls S hr hlk hX G hl
  have S : CallFix pg mg cg cX9_go 4 sg _ wsX9_go RX9 := S
  have hl : lv_has ls 4 [(0, .ref (E.2.2.2 161)), (1, .int (nI n))] := hl
  refine lv_iload_n S.1 S.2.1 dX9_go_0 rfl (lv_at hl 1 rfl) ?_
  refine lv_i2l (v := (Int32.toInt64 (nI n))) S.1 S.2.1 dX9_go_1 rfl ?_
  refine lv_lconst (v := (1 : Int64)) S.1 S.2.1 dX9_go_2 (by decide) ?_
  refine lv_ldc2 (v := (1000 : Int64)) S.1 S.2.1 S.2.2.2.1 (S.2.2.2.2 _ (List.mem_of_getElem? (i := 1) rfl)) dX9_go_3 ?_
  refine s_callS (As := [.long (Int32.toInt64 (nI n)), .long (1 : Int64), .long (1000 : Int64)]) (rest := []) S hX G (k_X9_in l E (Int32.toInt64 (nI n)) (1 : Int64) (1000 : Int64)) (va_cwS (bytes := cX9_in) (maxL := 6) (ret := (some .boolean)) 3 S.2.2.2.2 gX9_go_X9_in rfl rfl rfl (by decide +kernel) ⟨Nat.le_of_ble_eq_true rfl, Nat.le_of_ble_eq_true rfl⟩) rfl hl.1 rfl (Nat.le_of_ble_eq_true rfl) ⟨Nat.zero_le _, Nat.zero_le _⟩ dX9_go_6 (fun v I1 L1 H locs hR G => ?_)
  obtain ⟨hv, hI, hL⟩ := hR
  subst hv
  have G : GS E I L sg H locs := G.same hI hL
  refine W.eq (g2 := F0 mg 9 ls [.int (if ¬ (Int32.toInt64 (nI n)) < (1 : Int64) ∧ ¬ (1000 : Int64) < (Int32.toInt64 (nI n)) then 1 else 0)]) rfl ?_
  refine s_if_ne_b (P := ¬ (Int32.toInt64 (nI n)) < (1 : Int64) ∧ ¬ (1000 : Int64) < (Int32.toInt64 (nI n))) (tgt := 15) S dX9_go_9 (by decide) (fun _ => ?_) (fun h => absurd (in64 (a := nI 1) (b := nI 1000) (inR h1 h2 (by decide)) (by decide) (by decide)) h)
  refine lv_aload_n S.1 S.2.1 dX9_go_15 rfl (lv_at hl 0 rfl) ?_
  refine s_get S hX G (i := 161) (kd := 9) (a := (I 161)) (v := .ref (E.2.2.2 162)) (C := RX9) (T := TX9) (N := 13) 0 (rfl : sh 161 = 9) rfl rfl rfl (by decide) rfl (fun _ h => (List.mem_cons_of_mem _ (List.mem_append_right _ h))) (by decide) (List.mem_of_getElem? (i := 3) rfl) (fun _ h => h) dX9_go_16 ?_
  refine lv_iconst (v := (0 : Int32)) S.1 S.2.1 dX9_go_19 (by decide) ?_
  refine s_iald S hX G (i := 162) (kd := 284) (n := 270) (a := d) (x := (d 0)) (rfl : sh 162 = 284) e_d rfl (by decide) (by unfold vp_in; decide) (congrArg d (by decide)) dX9_go_20 ?_
  refine s_conv (y := (nI k0)) hd ?_
  refine lv_iload_n S.1 S.2.1 dX9_go_21 rfl (lv_at hl 1 rfl) ?_
  refine s_iadd (v := (nI (k0 + n))) S dX9_go_22 (nI_add k0 n) ?_
  refine lv_ldc (v := (100000 : Int32)) S.1 S.2.1 S.2.2.2.1 (S.2.2.2.2 _ (List.mem_of_getElem? (i := 4) rfl)) dX9_go_23 ?_
  refine lv_icmp_le (tgt := 31) S.1 S.2.1 dX9_go_25 (by decide) (fun h => absurd h (nI_ge (a := 100000) h3 (by omega))) (fun _ => ?_)
  refine lv_ldc (v := (-2000000003 : Int32)) S.1 S.2.1 S.2.2.2.1 (S.2.2.2.2 _ (List.mem_of_getElem? (i := 5) rfl)) dX9_go_28 ?_
  refine s_iret (x := (-2000000003 : Int32)) S G hr hlk dX9_go_30 ?_
  exact ⟨rfl, rfl, rfl⟩
set_option maxHeartbeats 4000000 in
set_option maxRecDepth 100000 in
theorem k_X9_go_no (l : Launch) (E : Ev) {I : SI} {L : SL} (slots : Int32) (ht : ¬ INR slots 1 1000) : CS l yX9_go wsX9_go ({ frames := 1, cells := 0, slots := 0, locals := 25 }) E [.ref (E.2.2.2 161), .int slots] I L (fun vv I' L' => vv = some (.int (-2000000001 : Int32)) ∧ I' = I ∧ L' = L) := by
  refine CS.of (cc := cX9_go) (maxL := 4) (ret := (some .int)) (by decide) rfl (Nat.le_of_ble_eq_true rfl) ?_
  intro pg en sg mg below meth cg ls S hr hlk hX G hl
  have S : CallFix pg mg cg cX9_go 4 sg _ wsX9_go RX9 := S
  have hl : lv_has ls 4 [(0, .ref (E.2.2.2 161)), (1, .int slots)] := hl
  refine lv_iload_n S.1 S.2.1 dX9_go_0 rfl (lv_at hl 1 rfl) ?_
  refine lv_i2l (v := (Int32.toInt64 slots)) S.1 S.2.1 dX9_go_1 rfl ?_
  refine lv_lconst (v := (1 : Int64)) S.1 S.2.1 dX9_go_2 (by decide) ?_
  refine lv_ldc2 (v := (1000 : Int64)) S.1 S.2.1 S.2.2.2.1 (S.2.2.2.2 _ (List.mem_of_getElem? (i := 1) rfl)) dX9_go_3 ?_
  refine s_callS (As := [.long (Int32.toInt64 slots), .long (1 : Int64), .long (1000 : Int64)]) (rest := []) S hX G (k_X9_in l E (Int32.toInt64 slots) (1 : Int64) (1000 : Int64)) (va_cwS (bytes := cX9_in) (maxL := 6) (ret := (some .boolean)) 3 S.2.2.2.2 gX9_go_X9_in rfl rfl rfl (by decide +kernel) ⟨Nat.le_of_ble_eq_true rfl, Nat.le_of_ble_eq_true rfl⟩) rfl hl.1 rfl (Nat.le_of_ble_eq_true rfl) ⟨Nat.zero_le _, Nat.zero_le _⟩ dX9_go_6 (fun v I1 L1 H locs hR G => ?_)
  obtain ⟨hv, hI, hL⟩ := hR
  subst hv
  have G : GS E I L sg H locs := G.same hI hL
  refine W.eq (g2 := F0 mg 9 ls [.int (if ¬ (Int32.toInt64 slots) < (1 : Int64) ∧ ¬ (1000 : Int64) < (Int32.toInt64 slots) then 1 else 0)]) rfl ?_
  refine s_if_ne_b (P := ¬ (Int32.toInt64 slots) < (1 : Int64) ∧ ¬ (1000 : Int64) < (Int32.toInt64 slots)) (tgt := 15) S dX9_go_9 (by decide) (fun h => absurd h (nin64 (a := 1) (b := 1000) ht (by decide) (by decide))) (fun _ => ?_)
  refine lv_ldc (v := (-2000000001 : Int32)) S.1 S.2.1 S.2.2.2.1 (S.2.2.2.2 _ (List.mem_of_getElem? (i := 2) rfl)) dX9_go_12 ?_
  refine s_iret (x := (-2000000001 : Int32)) S G hr hlk dX9_go_14 ?_
  exact ⟨rfl, rfl, rfl⟩
theorem all_s {P : Nat → Prop} {k : Nat} (h : ∀ j, j < k → P j) (hk : P k) : ∀ j, j < k + 1 → P j := by
  intro j hj
  rcases Nat.lt_or_ge j k with q | q
  · exact h j q
  · rw [show j = k by omega]
    exact hk
theorem all_0 {P : Nat → Prop} : ∀ j, j < 0 → P j := fun j hj => absurd hj (Nat.not_lt_zero j)
/-- how many steps until a size is reached: what until answers -/
def UntS (f : Nat → Int32) (am x : Int32) : Prop := (∃ m, m ≤ 1000 ∧ (∀ j, j < m → ¬ am ≤ f j) ∧ am ≤ f m ∧ x = nI m) ∨ ((∀ j, j ≤ 1000 → ¬ am ≤ f j) ∧ x = (-2000000004 : Int32))
theorem UntS_uniq {f : Nat → Int32} {am x y : Int32} (hx : UntS f am x) (hy : UntS f am y) : x = y := by
  rcases hx with ⟨m, h1, h2, h3, rfl⟩ | ⟨h1, rfl⟩
  · rcases hy with ⟨m', g1, g2, g3, rfl⟩ | ⟨g1, rfl⟩
    · rcases Nat.lt_trichotomy m m' with q | q | q
      · exact absurd h3 (g2 m q)
      · rw [q]
      · exact absurd g3 (h2 m' q)
    · exact absurd h3 (g1 m h1)
  · rcases hy with ⟨m', g1, g2, g3, rfl⟩ | ⟨g1, rfl⟩
    · exact absurd g3 (h1 m' g1)
    · rfl
set_option maxHeartbeats 4000000 in
set_option maxRecDepth 100000 in
theorem k_X9_ifGo_ok_0 (l : Launch) (E : Ev) {I : SI} {L : SL} (n : Nat) (d : Nat → Int32) (az : Nat → Int32) (lx : Nat → Int64) (e_d : I (162) = d) (e_az : I (165) = az) (e_lx : L (161) = lx) (h1 : 1 ≤ n) (h2 : n ≤ 1000) (hc : cmdsM d) : CS l yX9_ifGo wsX9_ifGo ({ frames := 5, cells := 0, slots := 0, locals := 112 }) E [.ref (E.2.2.2 161), .int (0 : Int32), .int (nI n)] I L (fun vv I' L' => vv = some (.int (gsN d n 44)) ∧ I' = (up (up I (165) (va_cpy d az 0 0 270)) (162) (va_cpy (va_cpy d az 0 0 270) (gsN d n) 0 0 270)) ∧ L' = (upL L (161) (vp_updL (gsNX d (vp_updL lx 6 (lx 3)) n) 3 (gsNX d (vp_updL lx 6 (lx 3)) n 6)))) := by
  refine CS.of (cc := cX9_ifGo) (maxL := 4) (ret := (some .int)) (by decide) rfl (Nat.le_of_ble_eq_true rfl) ?_
  intro pg en sg mg below meth cg ls S hr hlk hX G hl
  have S : CallFix pg mg cg cX9_ifGo 4 sg _ wsX9_ifGo RX9 := S
  have hl : lv_has ls 4 [(0, .ref (E.2.2.2 161)), (1, .int (0 : Int32)), (2, .int (nI n))] := hl
  refine lv_iload_n S.1 S.2.1 dX9_ifGo_0 rfl (lv_at hl 1 rfl) ?_
  refine s_callS (As := [.int (0 : Int32)]) (rest := []) S hX G (k_X9_isLoad l E (0 : Int32)) (va_cwS (bytes := cX9_isLoad) (maxL := 1) (ret := (some .boolean)) 1 S.2.2.2.2 gX9_ifGo_X9_isLoad rfl rfl rfl (by decide +kernel) ⟨Nat.le_of_ble_eq_true rfl, Nat.le_of_ble_eq_true rfl⟩) rfl hl.1 rfl (Nat.le_of_ble_eq_true rfl) ⟨Nat.zero_le _, Nat.zero_le _⟩ dX9_ifGo_1 (fun v I1 L1 H locs hR G => ?_)
  obtain ⟨hv, hI, hL⟩ := hR
  subst hv
  have G : GS E I L sg H locs := G.same hI hL
  refine W.eq (g2 := F0 mg 4 ls [.int (if ¬ (0 : Int32) < (0 : Int32) ∧ ¬ (1 : Int32) < (0 : Int32) then 1 else 0)]) rfl ?_
  refine s_if_eq_b (P := ¬ (0 : Int32) < (0 : Int32) ∧ ¬ (1 : Int32) < (0 : Int32)) (tgt := 19) S dX9_ifGo_4 (by decide) (fun h => absurd (by decide) h) (fun _ => ?_)
  refine lv_iload_n S.1 S.2.1 dX9_ifGo_7 rfl (lv_at hl 2 rfl) ?_
  refine lv_i2l (v := (Int32.toInt64 (nI n))) S.1 S.2.1 dX9_ifGo_8 rfl ?_
  refine lv_lconst (v := (1 : Int64)) S.1 S.2.1 dX9_ifGo_9 (by decide) ?_
  refine lv_ldc2 (v := (1000 : Int64)) S.1 S.2.1 S.2.2.2.1 (S.2.2.2.2 _ (List.mem_of_getElem? (i := 1) rfl)) dX9_ifGo_10 ?_
  refine s_callS (As := [.long (Int32.toInt64 (nI n)), .long (1 : Int64), .long (1000 : Int64)]) (rest := []) S hX G (k_X9_in l E (Int32.toInt64 (nI n)) (1 : Int64) (1000 : Int64)) (va_cwS (bytes := cX9_in) (maxL := 6) (ret := (some .boolean)) 3 S.2.2.2.2 gX9_ifGo_X9_in rfl rfl rfl (by decide +kernel) ⟨Nat.le_of_ble_eq_true rfl, Nat.le_of_ble_eq_true rfl⟩) rfl hl.1 rfl (Nat.le_of_ble_eq_true rfl) ⟨Nat.zero_le _, Nat.zero_le _⟩ dX9_ifGo_13 (fun v I1 L1 H locs hR G => ?_)
  obtain ⟨hv, hI, hL⟩ := hR
  subst hv
  have G : GS E I L sg H locs := G.same hI hL
  refine W.eq (g2 := F0 mg 16 ls [.int (if ¬ (Int32.toInt64 (nI n)) < (1 : Int64) ∧ ¬ (1000 : Int64) < (Int32.toInt64 (nI n)) then 1 else 0)]) rfl ?_
  refine s_if_ne_b (P := ¬ (Int32.toInt64 (nI n)) < (1 : Int64) ∧ ¬ (1000 : Int64) < (Int32.toInt64 (nI n))) (tgt := 22) S dX9_ifGo_16 (by decide) (fun _ => ?_) (fun h => absurd (in64 (a := nI 1) (b := nI 1000) (inR h1 h2 (by decide)) (by decide) (by decide)) h)
  refine lv_aload_n S.1 S.2.1 dX9_ifGo_22 rfl (lv_at hl 0 rfl) ?_
  refine s_callV (C := RX9) (As := []) (rest := []) (i := 161) (kd := 9) S hX G (k_X9_keeps l E d az lx e_d e_az e_lx) (cwV (bytes := cX9_keeps) (maxL := 2) (ret := none) 0 S.2.2.2.2 gX9_ifGo_X9_keeps rfl rfl rfl (by decide +kernel) ⟨Nat.le_of_ble_eq_true rfl, Nat.le_of_ble_eq_true rfl⟩) (rfl : sh 161 = 9) rfl rfl rfl (by decide) rfl hl.1 rfl (Nat.le_of_ble_eq_true rfl) ⟨Nat.zero_le _, Nat.zero_le _⟩ dX9_ifGo_23 (fun v I1 L1 H locs hR G => ?_)
  obtain ⟨hv, hI, hL⟩ := hR
  subst hv
  obtain ⟨r_1, er_1⟩ : ∃ r : Nat → Int32, r = (va_cpy d az 0 0 270) := ⟨_, rfl⟩
  rw [← er_1] at hI
  obtain ⟨r_2, er_2⟩ : ∃ r : Nat → Int64, r = (vp_updL lx 6 (lx 3)) := ⟨_, rfl⟩
  rw [← er_2] at hL
  have G : GS E (up I 165 r_1) (upL L 161 r_2) sg H locs := G.same hI hL
  refine W.eq (g2 := F0 mg 26 ls []) rfl ?_
  refine lv_iconst (v := (0 : Int32)) S.1 S.2.1 dX9_ifGo_26 (by decide) ?_
  refine lv_istore_n (lv' := [(3, .int (0 : Int32)), (0, .ref (E.2.2.2 161)), (1, .int (0 : Int32)), (2, .int (nI n))]) S.1 S.2.1 dX9_ifGo_27 rfl hl (by decide) rfl (fun ls hl => ?_)
  refine s_loop (α := Nat) (nL := 4) (E := E) (fun nn x I' L' => nn = n - x ∧ x ≤ n ∧ I' = (up (up I 165 r_1) 162 (gsN d x)) ∧ L' = (upL L 161 (gsNX d r_2 x))) (fun x => [(3, .int (nI x)), (0, .ref (E.2.2.2 161)), (1, .int (0 : Int32)), (2, .int (nI n))]) 28 (fun x => []) (fun nn ih_3 x I1 L1 H locs ls hP G hl => ?_) _ 0 ⟨rfl, (Nat.zero_le _), (up_same ((up_ne (by decide)).trans e_d)), rfl⟩ G (lv_sub hl [0, 1, 2, 3] rfl)
  obtain ⟨k, rfl⟩ : ∃ z, z = x := ⟨x, rfl⟩
  obtain ⟨hn, hk, hIc, hLc⟩ := hP
  have hn : nn = n - k := hn
  obtain ⟨I_b, rfl⟩ : ∃ z, z = I1 := ⟨I1, rfl⟩
  obtain ⟨L_b, rfl⟩ : ∃ z, z = L1 := ⟨L1, rfl⟩
  have hk : k ≤ n := hk
  have hIc : I_b = (up (up I 165 r_1) 162 (gsN d k)) := hIc
  have hLc : L_b = (upL L 161 (gsNX d r_2 k)) := hLc
  have hl : lv_has ls 4 [(3, .int (nI k)), (0, .ref (E.2.2.2 161)), (1, .int (0 : Int32)), (2, .int (nI n))] := hl
  refine W.eq (g2 := F0 mg 28 ls []) rfl ?_
  have G : GS E (up (up I 165 r_1) 162 (gsN d k)) (upL L 161 (gsNX d r_2 k)) sg H locs := G.same hIc hLc
  rcases Nat.lt_or_ge k n with hlt | hge
  · have hlt : k < n := hlt
    refine lv_iload_n S.1 S.2.1 dX9_ifGo_28 rfl (lv_at hl 0 rfl) ?_
    refine lv_iload_n S.1 S.2.1 dX9_ifGo_29 rfl (lv_at hl 3 rfl) ?_
    refine lv_icmp_ge (tgt := 44) S.1 S.2.1 dX9_ifGo_30 (by decide) (fun h => absurd h (nI_ge hlt (by omega))) (fun _ => ?_)
    refine lv_aload_n S.1 S.2.1 dX9_ifGo_33 rfl (lv_at hl 1 rfl) ?_
    refine s_callV (C := RX9) (As := []) (rest := []) (i := 161) (kd := 9) S hX G (k_X9_goes2 l E (gsN d k) (gsNX d r_2 k) up_eq upL_eq (cmdsN (n := k) hc)) (cwV (bytes := cX9_goes) (maxL := 4) (ret := (some .int)) 0 S.2.2.2.2 gX9_ifGo_X9_goes rfl rfl rfl (by decide +kernel) ⟨Nat.le_of_ble_eq_true rfl, Nat.le_of_ble_eq_true rfl⟩) (rfl : sh 161 = 9) rfl rfl rfl (by decide) rfl hl.1 rfl (Nat.le_of_ble_eq_true rfl) ⟨Nat.zero_le _, Nat.zero_le _⟩ dX9_ifGo_34 (fun v I1 L1 H locs hR G => ?_)
    obtain ⟨hv, hI, hL⟩ := hR
    subst hv
    have hI : I1 = (up (up (up I 165 r_1) 162 (gsN d k)) 162 (gsN d (k + 1))) := hI
    have hL : L1 = (upL (upL L 161 (gsNX d r_2 k)) 161 (gsNX d r_2 (k + 1))) := hL
    have G : GS E (up (up I 165 r_1) 162 (gsN d (k + 1))) (upL L 161 (gsNX d r_2 (k + 1))) sg H locs := G.same (hI.trans (by rw [up_up])) (hL.trans (by rw [upL_upL]))
    refine W.eq (g2 := F0 mg 37 ls [.int (gsR (gsN d k))]) rfl ?_
    refine lv_pop S.1 S.2.1 dX9_ifGo_37 rfl ?_
    refine lv_iinc (v := (nI (k + 1))) (lv' := [(3, .int (nI (k + 1))), (0, .ref (E.2.2.2 161)), (1, .int (0 : Int32)), (2, .int (nI n))]) S.1 S.2.1 dX9_ifGo_38 hl (k := 0) rfl (nI_1 k) (by decide) rfl (fun ls hl => ?_)
    refine lv_goto (tgt := 28) S.1 S.2.1 dX9_ifGo_41 (by decide) ?_
    exact ih_3 _ (show n - (k + 1) < nn by omega) (k + 1) _ _ _ _ _ ⟨rfl, (by omega), rfl, rfl⟩ G (lv_sub hl [0, 1, 2, 3] rfl)
  · have hkn : n = k := by omega
    subst hkn
    refine lv_iload_n S.1 S.2.1 dX9_ifGo_28 rfl (lv_at hl 0 rfl) ?_
    refine lv_iload_n S.1 S.2.1 dX9_ifGo_29 rfl (lv_at hl 3 rfl) ?_
    refine lv_icmp_ge (tgt := 44) S.1 S.2.1 dX9_ifGo_30 (by decide) (fun _ => ?_) (fun h => absurd (nI_le (by omega) (by omega)) h)
    refine lv_aload_n S.1 S.2.1 dX9_ifGo_44 rfl (lv_at hl 1 rfl) ?_
    refine s_get S hX G (i := 161) (kd := 9) (a := (I 161)) (v := .ref (E.2.2.2 162)) (C := RX9) (T := TX9) (N := 13) 0 (rfl : sh 161 = 9) ((up_ne (by decide)).trans (up_ne (by decide))) rfl rfl (by decide) rfl (fun _ h => (List.mem_cons_of_mem _ (List.mem_append_right _ h))) (by decide) (List.mem_of_getElem? (i := 3) rfl) (fun _ h => h) dX9_ifGo_45 ?_
    refine lv_iload_n S.1 S.2.1 dX9_ifGo_48 rfl (lv_at hl 2 rfl) ?_
    refine s_callS (As := [.int (0 : Int32)]) (rest := [.ref (E.2.2.2 162)]) S hX G (k_X9_loadAt_0 l E) (va_cwS (bytes := cX9_loadAt) (maxL := 1) (ret := (some .int)) 1 S.2.2.2.2 gX9_ifGo_X9_loadAt rfl rfl rfl (by decide +kernel) ⟨Nat.le_of_ble_eq_true rfl, Nat.le_of_ble_eq_true rfl⟩) rfl hl.1 rfl (Nat.le_of_ble_eq_true rfl) ⟨Nat.zero_le _, Nat.zero_le _⟩ dX9_ifGo_49 (fun v I1 L1 H locs hR G => ?_)
    obtain ⟨hv, hI, hL⟩ := hR
    subst hv
    have G : GS E (up (up I 165 r_1) 162 (gsN d n)) (upL L 161 (gsNX d r_2 n)) sg H locs := G.same hI hL
    refine W.eq (g2 := F0 mg 52 ls [.int (40 : Int32), .ref (E.2.2.2 162)]) rfl ?_
    refine lv_iconst (v := (4 : Int32)) S.1 S.2.1 dX9_ifGo_52 (by decide) ?_
    refine s_iadd (v := (44 : Int32)) S dX9_ifGo_53 (by decide) ?_
    refine s_iald S hX G (i := 162) (kd := 284) (n := 270) (a := (gsN d n)) (x := ((gsN d n) 44)) (rfl : sh 162 = 284) up_eq rfl (by decide) (by unfold vp_in; decide) (congrArg (gsN d n) (by decide)) dX9_ifGo_54 ?_
    refine lv_istore_n (lv' := [(3, .int ((gsN d n) 44)), (0, .ref (E.2.2.2 161)), (1, .int (0 : Int32)), (2, .int (nI n))]) S.1 S.2.1 dX9_ifGo_55 rfl hl (by decide) rfl (fun ls hl => ?_)
    refine lv_aload_n S.1 S.2.1 dX9_ifGo_56 rfl (lv_at hl 1 rfl) ?_
    refine s_callV (C := RX9) (As := []) (rest := []) (i := 161) (kd := 9) S hX G (k_X9_restores l E (gsN d n) r_1 (gsNX d r_2 n) up_eq ((up_ne (by decide)).trans up_eq) upL_eq) (cwV (bytes := cX9_restores) (maxL := 2) (ret := none) 0 S.2.2.2.2 gX9_ifGo_X9_restores rfl rfl rfl (by decide +kernel) ⟨Nat.le_of_ble_eq_true rfl, Nat.le_of_ble_eq_true rfl⟩) (rfl : sh 161 = 9) rfl rfl rfl (by decide) rfl hl.1 rfl (Nat.le_of_ble_eq_true rfl) ⟨Nat.zero_le _, Nat.zero_le _⟩ dX9_ifGo_57 (fun v I1 L1 H locs hR G => ?_)
    obtain ⟨hv, hI, hL⟩ := hR
    subst hv
    obtain ⟨r_4, er_4⟩ : ∃ r : Nat → Int32, r = (va_cpy r_1 (gsN d n) 0 0 270) := ⟨_, rfl⟩
    rw [← er_4] at hI
    obtain ⟨r_5, er_5⟩ : ∃ r : Nat → Int64, r = (vp_updL (gsNX d r_2 n) 3 ((gsNX d r_2 n) 6)) := ⟨_, rfl⟩
    rw [← er_5] at hL
    have G : GS E (up (up I 165 r_1) 162 r_4) (upL L 161 r_5) sg H locs := G.same (hI.trans (by rw [up_up])) (hL.trans (by rw [upL_upL]))
    refine W.eq (g2 := F0 mg 60 ls []) rfl ?_
    refine lv_iload_n S.1 S.2.1 dX9_ifGo_60 rfl (lv_at hl 0 rfl) ?_
    refine s_iret (x := ((gsN d n) 44)) S G hr hlk dX9_ifGo_61 ?_
    exact ⟨(congrArg (fun q : Int32 => some (Value.int q)) (show ((gsN d n) 44) = (gsN d n 44) by subst er_5 er_4 er_2 er_1; rfl)), (st_eq2 (Eq.trans ((up_ne (by decide)).trans up_eq) (show r_1 = (va_cpy d az 0 0 270) by subst er_5 er_4 er_2 er_1; rfl)) (Eq.trans up_eq (show r_4 = (va_cpy (va_cpy d az 0 0 270) (gsN d n) 0 0 270) by subst er_5 er_4 er_2 er_1; rfl)) (fun _ g0 g1 => ((up_ne g1).trans (up_ne g0)))), (lt_eq1 (Eq.trans upL_eq (show r_5 = (vp_updL (gsNX d (vp_updL lx 6 (lx 3)) n) 3 (gsNX d (vp_updL lx 6 (lx 3)) n 6)) by subst er_5 er_4 er_2 er_1; rfl)) (fun _ g0 => (upL_ne g0)))⟩
set_option maxHeartbeats 4000000 in
set_option maxRecDepth 100000 in
theorem k_X9_until_ok_0 (l : Launch) (E : Ev) {I : SI} {L : SL} (am : Int32) (d : Nat → Int32) (az : Nat → Int32) (lx : Nat → Int64) (e_d : I (162) = d) (e_az : I (165) = az) (e_lx : L (161) = lx) (ht : INR am 1 1000000) (hc : cmdsM d) : CS l yX9_until wsX9_until ({ frames := 5, cells := 0, slots := 0, locals := 112 }) E [.ref (E.2.2.2 161), .int (0 : Int32), .int am] I L (fun vv I' L' => (∃ x, vv = some (.int x) ∧ UntS (fun j => absM (gsN d j 44)) am x) ∧ ∃ m, I' = (up (up I 165 (va_cpy d az 0 0 270)) 162 (va_cpy (va_cpy d az 0 0 270) (gsN d m) 0 0 270)) ∧ L' = (upL L 161 (vp_updL (gsNX d (vp_updL lx 6 (lx 3)) m) 3 (gsNX d (vp_updL lx 6 (lx 3)) m 6)))) := by
  refine CS.of (cc := cX9_until) (maxL := 5) (ret := (some .int)) (by decide) rfl (Nat.le_of_ble_eq_true rfl) ?_
  intro pg en sg mg below meth cg ls S hr hlk hX G hl
  have S : CallFix pg mg cg cX9_until 5 sg _ wsX9_until RX9 := S
  have hl : lv_has ls 5 [(0, .ref (E.2.2.2 161)), (1, .int (0 : Int32)), (2, .int am)] := hl
  refine lv_iload_n S.1 S.2.1 dX9_until_0 rfl (lv_at hl 1 rfl) ?_
  refine s_callS (As := [.int (0 : Int32)]) (rest := []) S hX G (k_X9_isLoad l E (0 : Int32)) (va_cwS (bytes := cX9_isLoad) (maxL := 1) (ret := (some .boolean)) 1 S.2.2.2.2 gX9_until_X9_isLoad rfl rfl rfl (by decide +kernel) ⟨Nat.le_of_ble_eq_true rfl, Nat.le_of_ble_eq_true rfl⟩) rfl hl.1 rfl (Nat.le_of_ble_eq_true rfl) ⟨Nat.zero_le _, Nat.zero_le _⟩ dX9_until_1 (fun v I1 L1 H locs hR G => ?_)
  obtain ⟨hv, hI, hL⟩ := hR
  subst hv
  have G : GS E I L sg H locs := G.same hI hL
  refine W.eq (g2 := F0 mg 4 ls [.int (if ¬ (0 : Int32) < (0 : Int32) ∧ ¬ (1 : Int32) < (0 : Int32) then 1 else 0)]) rfl ?_
  refine s_if_eq_b (P := ¬ (0 : Int32) < (0 : Int32) ∧ ¬ (1 : Int32) < (0 : Int32)) (tgt := 19) S dX9_until_4 (by decide) (fun h => absurd (by decide) h) (fun _ => ?_)
  refine lv_iload_n S.1 S.2.1 dX9_until_7 rfl (lv_at hl 2 rfl) ?_
  refine lv_i2l (v := (Int32.toInt64 am)) S.1 S.2.1 dX9_until_8 rfl ?_
  refine lv_lconst (v := (1 : Int64)) S.1 S.2.1 dX9_until_9 (by decide) ?_
  refine lv_ldc2 (v := (1000000 : Int64)) S.1 S.2.1 S.2.2.2.1 (S.2.2.2.2 _ (List.mem_of_getElem? (i := 1) rfl)) dX9_until_10 ?_
  refine s_callS (As := [.long (Int32.toInt64 am), .long (1 : Int64), .long (1000000 : Int64)]) (rest := []) S hX G (k_X9_in l E (Int32.toInt64 am) (1 : Int64) (1000000 : Int64)) (va_cwS (bytes := cX9_in) (maxL := 6) (ret := (some .boolean)) 3 S.2.2.2.2 gX9_until_X9_in rfl rfl rfl (by decide +kernel) ⟨Nat.le_of_ble_eq_true rfl, Nat.le_of_ble_eq_true rfl⟩) rfl hl.1 rfl (Nat.le_of_ble_eq_true rfl) ⟨Nat.zero_le _, Nat.zero_le _⟩ dX9_until_13 (fun v I1 L1 H locs hR G => ?_)
  obtain ⟨hv, hI, hL⟩ := hR
  subst hv
  have G : GS E I L sg H locs := G.same hI hL
  refine W.eq (g2 := F0 mg 16 ls [.int (if ¬ (Int32.toInt64 am) < (1 : Int64) ∧ ¬ (1000000 : Int64) < (Int32.toInt64 am) then 1 else 0)]) rfl ?_
  refine s_if_ne_b (P := ¬ (Int32.toInt64 am) < (1 : Int64) ∧ ¬ (1000000 : Int64) < (Int32.toInt64 am)) (tgt := 22) S dX9_until_16 (by decide) (fun _ => ?_) (fun h => absurd (in64 (a := 1) (b := 1000000) ht (by decide) (by decide)) h)
  refine lv_aload_n S.1 S.2.1 dX9_until_22 rfl (lv_at hl 0 rfl) ?_
  refine s_callV (C := RX9) (As := []) (rest := []) (i := 161) (kd := 9) S hX G (k_X9_keeps l E d az lx e_d e_az e_lx) (cwV (bytes := cX9_keeps) (maxL := 2) (ret := none) 0 S.2.2.2.2 gX9_until_X9_keeps rfl rfl rfl (by decide +kernel) ⟨Nat.le_of_ble_eq_true rfl, Nat.le_of_ble_eq_true rfl⟩) (rfl : sh 161 = 9) rfl rfl rfl (by decide) rfl hl.1 rfl (Nat.le_of_ble_eq_true rfl) ⟨Nat.zero_le _, Nat.zero_le _⟩ dX9_until_23 (fun v I1 L1 H locs hR G => ?_)
  obtain ⟨hv, hI, hL⟩ := hR
  subst hv
  obtain ⟨r_1, er_1⟩ : ∃ r : Nat → Int32, r = (va_cpy d az 0 0 270) := ⟨_, rfl⟩
  rw [← er_1] at hI
  obtain ⟨r_2, er_2⟩ : ∃ r : Nat → Int64, r = (vp_updL lx 6 (lx 3)) := ⟨_, rfl⟩
  rw [← er_2] at hL
  have G : GS E (up I 165 r_1) (upL L 161 r_2) sg H locs := G.same hI hL
  refine W.eq (g2 := F0 mg 26 ls []) rfl ?_
  refine lv_iconst (v := (0 : Int32)) S.1 S.2.1 dX9_until_26 (by decide) ?_
  refine lv_istore_n (lv' := [(3, .int (0 : Int32)), (0, .ref (E.2.2.2 161)), (1, .int (0 : Int32)), (2, .int am)]) S.1 S.2.1 dX9_until_27 rfl hl (by decide) rfl (fun ls hl => ?_)
  refine s_loop (α := Nat) (nL := 5) (E := E) (fun nn x I' L' => nn = 1000 - x ∧ x ≤ 1000 ∧ (∀ j, j < x → ¬ am ≤ absM (gsN d j 44)) ∧ I' = (up (up I 165 r_1) 162 (gsN d x)) ∧ L' = (upL L 161 (gsNX d r_2 x))) (fun x => [(3, .int (nI x)), (0, .ref (E.2.2.2 161)), (1, .int (0 : Int32)), (2, .int am)]) 28 (fun x => []) (fun nn ih_3 x I1 L1 H locs ls hP G hl => ?_) _ 0 ⟨rfl, (Nat.zero_le _), all_0, (up_same ((up_ne (by decide)).trans e_d)), rfl⟩ G (lv_sub hl [0, 1, 2, 3] rfl)
  obtain ⟨k, rfl⟩ : ∃ z, z = x := ⟨x, rfl⟩
  obtain ⟨hn, hk, hno, hIc, hLc⟩ := hP
  have hn : nn = 1000 - k := hn
  obtain ⟨I_b, rfl⟩ : ∃ z, z = I1 := ⟨I1, rfl⟩
  obtain ⟨L_b, rfl⟩ : ∃ z, z = L1 := ⟨L1, rfl⟩
  have hk : k ≤ 1000 := hk
  have hno : (∀ j, j < k → ¬ am ≤ absM (gsN d j 44)) := hno
  have hIc : I_b = (up (up I 165 r_1) 162 (gsN d k)) := hIc
  have hLc : L_b = (upL L 161 (gsNX d r_2 k)) := hLc
  have hl : lv_has ls 5 [(3, .int (nI k)), (0, .ref (E.2.2.2 161)), (1, .int (0 : Int32)), (2, .int am)] := hl
  refine W.eq (g2 := F0 mg 28 ls []) rfl ?_
  have G : GS E (up (up I 165 r_1) 162 (gsN d k)) (upL L 161 (gsNX d r_2 k)) sg H locs := G.same hIc hLc
  refine lv_aload_n S.1 S.2.1 dX9_until_28 rfl (lv_at hl 1 rfl) ?_
  refine lv_iload_n S.1 S.2.1 dX9_until_29 rfl (lv_at hl 2 rfl) ?_
  refine s_callV (C := RX9) (As := [.int (0 : Int32)]) (rest := []) (i := 161) (kd := 9) S hX G (k_X9_sizeOf_0 l E (gsN d k) up_eq) (cwV (bytes := cX9_sizeOf) (maxL := 3) (ret := (some .int)) 1 S.2.2.2.2 gX9_until_X9_sizeOf rfl rfl rfl (by decide +kernel) ⟨Nat.le_of_ble_eq_true rfl, Nat.le_of_ble_eq_true rfl⟩) (rfl : sh 161 = 9) rfl rfl rfl (by decide) rfl hl.1 rfl (Nat.le_of_ble_eq_true rfl) ⟨Nat.zero_le _, Nat.zero_le _⟩ dX9_until_30 (fun v I1 L1 H locs hR G => ?_)
  obtain ⟨hv, hI, hL⟩ := hR
  subst hv
  have G : GS E (up (up I 165 r_1) 162 (gsN d k)) (upL L 161 (gsNX d r_2 k)) sg H locs := G.same hI hL
  refine W.eq (g2 := F0 mg 33 ls [.int (absM ((gsN d k) 44))]) rfl ?_
  refine lv_iload_n S.1 S.2.1 dX9_until_33 rfl (lv_at hl 3 rfl) ?_
  refine lv_icmp_ge (tgt := 55) S.1 S.2.1 dX9_until_34 (by decide) (fun c_4 => ?_) (fun c_4 => ?_)
  · refine lv_aload_n S.1 S.2.1 dX9_until_55 rfl (lv_at hl 1 rfl) ?_
    refine lv_iload_n S.1 S.2.1 dX9_until_56 rfl (lv_at hl 2 rfl) ?_
    refine s_callV (C := RX9) (As := [.int (0 : Int32)]) (rest := []) (i := 161) (kd := 9) S hX G (k_X9_sizeOf_0 l E (gsN d k) up_eq) (cwV (bytes := cX9_sizeOf) (maxL := 3) (ret := (some .int)) 1 S.2.2.2.2 gX9_until_X9_sizeOf rfl rfl rfl (by decide +kernel) ⟨Nat.le_of_ble_eq_true rfl, Nat.le_of_ble_eq_true rfl⟩) (rfl : sh 161 = 9) rfl rfl rfl (by decide) rfl hl.1 rfl (Nat.le_of_ble_eq_true rfl) ⟨Nat.zero_le _, Nat.zero_le _⟩ dX9_until_57 (fun v I1 L1 H locs hR G => ?_)
    obtain ⟨hv, hI, hL⟩ := hR
    subst hv
    have G : GS E (up (up I 165 r_1) 162 (gsN d k)) (upL L 161 (gsNX d r_2 k)) sg H locs := G.same hI hL
    refine W.eq (g2 := F0 mg 60 ls [.int (absM ((gsN d k) 44))]) rfl ?_
    refine lv_iload_n S.1 S.2.1 dX9_until_60 rfl (lv_at hl 3 rfl) ?_
    refine lv_icmp_lt (tgt := 68) S.1 S.2.1 dX9_until_61 (by decide) (fun h => absurd h (Int32.not_lt.mpr c_4)) (fun _ => ?_)
    refine lv_iconst (v := (1 : Int32)) S.1 S.2.1 dX9_until_64 (by decide) ?_
    refine lv_goto (tgt := 69) S.1 S.2.1 dX9_until_65 (by decide) ?_
    refine lv_istore (lv' := [(4, .int (1 : Int32)), (3, .int (nI k)), (0, .ref (E.2.2.2 161)), (1, .int (0 : Int32)), (2, .int am)]) S.1 S.2.1 dX9_until_69 hl (by decide) rfl (fun ls hl => ?_)
    refine lv_aload_n S.1 S.2.1 dX9_until_71 rfl (lv_at hl 2 rfl) ?_
    refine s_callV (C := RX9) (As := []) (rest := []) (i := 161) (kd := 9) S hX G (k_X9_restores l E (gsN d k) r_1 (gsNX d r_2 k) up_eq ((up_ne (by decide)).trans up_eq) upL_eq) (cwV (bytes := cX9_restores) (maxL := 2) (ret := none) 0 S.2.2.2.2 gX9_until_X9_restores rfl rfl rfl (by decide +kernel) ⟨Nat.le_of_ble_eq_true rfl, Nat.le_of_ble_eq_true rfl⟩) (rfl : sh 161 = 9) rfl rfl rfl (by decide) rfl hl.1 rfl (Nat.le_of_ble_eq_true rfl) ⟨Nat.zero_le _, Nat.zero_le _⟩ dX9_until_72 (fun v I1 L1 H locs hR G => ?_)
    obtain ⟨hv, hI, hL⟩ := hR
    subst hv
    obtain ⟨r_5, er_5⟩ : ∃ r : Nat → Int32, r = (va_cpy r_1 (gsN d k) 0 0 270) := ⟨_, rfl⟩
    rw [← er_5] at hI
    obtain ⟨r_6, er_6⟩ : ∃ r : Nat → Int64, r = (vp_updL (gsNX d r_2 k) 3 ((gsNX d r_2 k) 6)) := ⟨_, rfl⟩
    rw [← er_6] at hL
    have G : GS E (up (up I 165 r_1) 162 r_5) (upL L 161 r_6) sg H locs := G.same (hI.trans (by rw [up_up])) (hL.trans (by rw [upL_upL]))
    refine W.eq (g2 := F0 mg 75 ls []) rfl ?_
    refine lv_iload S.1 S.2.1 dX9_until_75 (lv_at hl 0 rfl) ?_
    refine lv_if_eq (tgt := 84) S.1 S.2.1 dX9_until_77 (by decide) (fun h => absurd h (by decide)) (fun _ => ?_)
    refine lv_iload_n S.1 S.2.1 dX9_until_80 rfl (lv_at hl 1 rfl) ?_
    refine lv_goto (tgt := 86) S.1 S.2.1 dX9_until_81 (by decide) ?_
    refine s_iret (x := (nI k)) S G hr hlk dX9_until_86 ?_
    exact by subst er_6 er_5 er_2 er_1; exact ⟨⟨_, rfl, Or.inl ⟨k, hk, hno, c_4, rfl⟩⟩, k, rfl, rfl⟩
  · rcases Nat.lt_or_ge k 1000 with hlt | hge
    · have hlt : k < 1000 := hlt
      refine lv_iload_n S.1 S.2.1 dX9_until_37 rfl (lv_at hl 0 rfl) ?_
      refine lv_sipush (v := (1000 : Int32)) S.1 S.2.1 dX9_until_38 (by decide) ?_
      refine lv_icmp_ge (tgt := 55) S.1 S.2.1 dX9_until_41 (by decide) (fun h => absurd h (nI_ge (b := 1000) hlt (by decide))) (fun _ => ?_)
      refine lv_aload_n S.1 S.2.1 dX9_until_44 rfl (lv_at hl 1 rfl) ?_
      refine s_callV (C := RX9) (As := []) (rest := []) (i := 161) (kd := 9) S hX G (k_X9_goes2 l E (gsN d k) (gsNX d r_2 k) up_eq upL_eq (cmdsN (n := k) hc)) (cwV (bytes := cX9_goes) (maxL := 4) (ret := (some .int)) 0 S.2.2.2.2 gX9_until_X9_goes rfl rfl rfl (by decide +kernel) ⟨Nat.le_of_ble_eq_true rfl, Nat.le_of_ble_eq_true rfl⟩) (rfl : sh 161 = 9) rfl rfl rfl (by decide) rfl hl.1 rfl (Nat.le_of_ble_eq_true rfl) ⟨Nat.zero_le _, Nat.zero_le _⟩ dX9_until_45 (fun v I1 L1 H locs hR G => ?_)
      obtain ⟨hv, hI, hL⟩ := hR
      subst hv
      have hI : I1 = (up (up (up I 165 r_1) 162 (gsN d k)) 162 (gsN d (k + 1))) := hI
      have hL : L1 = (upL (upL L 161 (gsNX d r_2 k)) 161 (gsNX d r_2 (k + 1))) := hL
      have G : GS E (up (up I 165 r_1) 162 (gsN d (k + 1))) (upL L 161 (gsNX d r_2 (k + 1))) sg H locs := G.same (hI.trans (by rw [up_up])) (hL.trans (by rw [upL_upL]))
      refine W.eq (g2 := F0 mg 48 ls [.int (gsR (gsN d k))]) rfl ?_
      refine lv_pop S.1 S.2.1 dX9_until_48 rfl ?_
      refine lv_iinc (v := (nI (k + 1))) (lv' := [(3, .int (nI (k + 1))), (0, .ref (E.2.2.2 161)), (1, .int (0 : Int32)), (2, .int am)]) S.1 S.2.1 dX9_until_49 hl (k := 0) rfl (nI_1 k) (by decide) rfl (fun ls hl => ?_)
      refine lv_goto (tgt := 28) S.1 S.2.1 dX9_until_52 (by decide) ?_
      exact ih_3 _ (show 1000 - (k + 1) < nn by omega) (k + 1) _ _ _ _ _ ⟨rfl, (by omega), (all_s hno c_4), rfl, rfl⟩ G (lv_sub hl [0, 1, 2, 3] rfl)
    · have hkn : k = 1000 := by omega
      subst hkn
      refine lv_iload_n S.1 S.2.1 dX9_until_37 rfl (lv_at hl 0 rfl) ?_
      refine lv_sipush (v := (1000 : Int32)) S.1 S.2.1 dX9_until_38 (by decide) ?_
      refine lv_icmp_ge (tgt := 55) S.1 S.2.1 dX9_until_41 (by decide) (fun _ => ?_) (fun h => absurd (nI_le (a := 1000) (b := 1000) (by decide) (by decide)) h)
      refine lv_aload_n S.1 S.2.1 dX9_until_55 rfl (lv_at hl 1 rfl) ?_
      refine lv_iload_n S.1 S.2.1 dX9_until_56 rfl (lv_at hl 2 rfl) ?_
      refine s_callV (C := RX9) (As := [.int (0 : Int32)]) (rest := []) (i := 161) (kd := 9) S hX G (k_X9_sizeOf_0 l E (gsN d 1000) up_eq) (cwV (bytes := cX9_sizeOf) (maxL := 3) (ret := (some .int)) 1 S.2.2.2.2 gX9_until_X9_sizeOf rfl rfl rfl (by decide +kernel) ⟨Nat.le_of_ble_eq_true rfl, Nat.le_of_ble_eq_true rfl⟩) (rfl : sh 161 = 9) rfl rfl rfl (by decide) rfl hl.1 rfl (Nat.le_of_ble_eq_true rfl) ⟨Nat.zero_le _, Nat.zero_le _⟩ dX9_until_57 (fun v I1 L1 H locs hR G => ?_)
      obtain ⟨hv, hI, hL⟩ := hR
      subst hv
      have G : GS E (up (up I 165 r_1) 162 (gsN d 1000)) (upL L 161 (gsNX d r_2 1000)) sg H locs := G.same hI hL
      refine W.eq (g2 := F0 mg 60 ls [.int (absM ((gsN d 1000) 44))]) rfl ?_
      refine lv_iload_n S.1 S.2.1 dX9_until_60 rfl (lv_at hl 3 rfl) ?_
      refine lv_icmp_lt (tgt := 68) S.1 S.2.1 dX9_until_61 (by decide) (fun _ => ?_) (fun h => absurd (Int32.not_le.mp c_4) h)
      refine lv_iconst (v := (0 : Int32)) S.1 S.2.1 dX9_until_68 (by decide) ?_
      refine lv_istore (lv' := [(4, .int (0 : Int32)), (3, .int (nI 1000)), (0, .ref (E.2.2.2 161)), (1, .int (0 : Int32)), (2, .int am)]) S.1 S.2.1 dX9_until_69 hl (by decide) rfl (fun ls hl => ?_)
      refine lv_aload_n S.1 S.2.1 dX9_until_71 rfl (lv_at hl 2 rfl) ?_
      refine s_callV (C := RX9) (As := []) (rest := []) (i := 161) (kd := 9) S hX G (k_X9_restores l E (gsN d 1000) r_1 (gsNX d r_2 1000) up_eq ((up_ne (by decide)).trans up_eq) upL_eq) (cwV (bytes := cX9_restores) (maxL := 2) (ret := none) 0 S.2.2.2.2 gX9_until_X9_restores rfl rfl rfl (by decide +kernel) ⟨Nat.le_of_ble_eq_true rfl, Nat.le_of_ble_eq_true rfl⟩) (rfl : sh 161 = 9) rfl rfl rfl (by decide) rfl hl.1 rfl (Nat.le_of_ble_eq_true rfl) ⟨Nat.zero_le _, Nat.zero_le _⟩ dX9_until_72 (fun v I1 L1 H locs hR G => ?_)
      obtain ⟨hv, hI, hL⟩ := hR
      subst hv
      obtain ⟨r_7, er_7⟩ : ∃ r : Nat → Int32, r = (va_cpy r_1 (gsN d 1000) 0 0 270) := ⟨_, rfl⟩
      rw [← er_7] at hI
      obtain ⟨r_8, er_8⟩ : ∃ r : Nat → Int64, r = (vp_updL (gsNX d r_2 1000) 3 ((gsNX d r_2 1000) 6)) := ⟨_, rfl⟩
      rw [← er_8] at hL
      have G : GS E (up (up I 165 r_1) 162 r_7) (upL L 161 r_8) sg H locs := G.same (hI.trans (by rw [up_up])) (hL.trans (by rw [upL_upL]))
      refine W.eq (g2 := F0 mg 75 ls []) rfl ?_
      refine lv_iload S.1 S.2.1 dX9_until_75 (lv_at hl 0 rfl) ?_
      refine lv_if_eq (tgt := 84) S.1 S.2.1 dX9_until_77 (by decide) (fun _ => ?_) (fun h => absurd (by decide) h)
      refine lv_ldc (v := (-2000000004 : Int32)) S.1 S.2.1 S.2.2.2.1 (S.2.2.2.2 _ (List.mem_of_getElem? (i := 3) rfl)) dX9_until_84 ?_
      refine s_iret (x := (-2000000004 : Int32)) S G hr hlk dX9_until_86 ?_
      exact by subst er_8 er_7 er_2 er_1; exact ⟨⟨_, rfl, Or.inr ⟨fun j hj => by rcases Nat.lt_or_ge j 1000 with q | q; exact hno j q; rw [show j = 1000 by omega]; exact c_4, rfl⟩⟩, 1000, rfl, rfl⟩
set_option maxHeartbeats 4000000 in
set_option maxRecDepth 100000 in
theorem k_X9_ifGo_ok_1 (l : Launch) (E : Ev) {I : SI} {L : SL} (n : Nat) (d : Nat → Int32) (az : Nat → Int32) (lx : Nat → Int64) (e_d : I (162) = d) (e_az : I (165) = az) (e_lx : L (161) = lx) (h1 : 1 ≤ n) (h2 : n ≤ 1000) (hc : cmdsM d) : CS l yX9_ifGo wsX9_ifGo ({ frames := 5, cells := 0, slots := 0, locals := 112 }) E [.ref (E.2.2.2 161), .int (1 : Int32), .int (nI n)] I L (fun vv I' L' => vv = some (.int (gsN d n 74)) ∧ I' = (up (up I (165) (va_cpy d az 0 0 270)) (162) (va_cpy (va_cpy d az 0 0 270) (gsN d n) 0 0 270)) ∧ L' = (upL L (161) (vp_updL (gsNX d (vp_updL lx 6 (lx 3)) n) 3 (gsNX d (vp_updL lx 6 (lx 3)) n 6)))) := by
  refine CS.of (cc := cX9_ifGo) (maxL := 4) (ret := (some .int)) (by decide) rfl (Nat.le_of_ble_eq_true rfl) ?_
  intro pg en sg mg below meth cg ls S hr hlk hX G hl
  have S : CallFix pg mg cg cX9_ifGo 4 sg _ wsX9_ifGo RX9 := S
  have hl : lv_has ls 4 [(0, .ref (E.2.2.2 161)), (1, .int (1 : Int32)), (2, .int (nI n))] := hl
  refine lv_iload_n S.1 S.2.1 dX9_ifGo_0 rfl (lv_at hl 1 rfl) ?_
  refine s_callS (As := [.int (1 : Int32)]) (rest := []) S hX G (k_X9_isLoad l E (1 : Int32)) (va_cwS (bytes := cX9_isLoad) (maxL := 1) (ret := (some .boolean)) 1 S.2.2.2.2 gX9_ifGo_X9_isLoad rfl rfl rfl (by decide +kernel) ⟨Nat.le_of_ble_eq_true rfl, Nat.le_of_ble_eq_true rfl⟩) rfl hl.1 rfl (Nat.le_of_ble_eq_true rfl) ⟨Nat.zero_le _, Nat.zero_le _⟩ dX9_ifGo_1 (fun v I1 L1 H locs hR G => ?_)
  obtain ⟨hv, hI, hL⟩ := hR
  subst hv
  have G : GS E I L sg H locs := G.same hI hL
  refine W.eq (g2 := F0 mg 4 ls [.int (if ¬ (1 : Int32) < (0 : Int32) ∧ ¬ (1 : Int32) < (1 : Int32) then 1 else 0)]) rfl ?_
  refine s_if_eq_b (P := ¬ (1 : Int32) < (0 : Int32) ∧ ¬ (1 : Int32) < (1 : Int32)) (tgt := 19) S dX9_ifGo_4 (by decide) (fun h => absurd (by decide) h) (fun _ => ?_)
  refine lv_iload_n S.1 S.2.1 dX9_ifGo_7 rfl (lv_at hl 2 rfl) ?_
  refine lv_i2l (v := (Int32.toInt64 (nI n))) S.1 S.2.1 dX9_ifGo_8 rfl ?_
  refine lv_lconst (v := (1 : Int64)) S.1 S.2.1 dX9_ifGo_9 (by decide) ?_
  refine lv_ldc2 (v := (1000 : Int64)) S.1 S.2.1 S.2.2.2.1 (S.2.2.2.2 _ (List.mem_of_getElem? (i := 1) rfl)) dX9_ifGo_10 ?_
  refine s_callS (As := [.long (Int32.toInt64 (nI n)), .long (1 : Int64), .long (1000 : Int64)]) (rest := []) S hX G (k_X9_in l E (Int32.toInt64 (nI n)) (1 : Int64) (1000 : Int64)) (va_cwS (bytes := cX9_in) (maxL := 6) (ret := (some .boolean)) 3 S.2.2.2.2 gX9_ifGo_X9_in rfl rfl rfl (by decide +kernel) ⟨Nat.le_of_ble_eq_true rfl, Nat.le_of_ble_eq_true rfl⟩) rfl hl.1 rfl (Nat.le_of_ble_eq_true rfl) ⟨Nat.zero_le _, Nat.zero_le _⟩ dX9_ifGo_13 (fun v I1 L1 H locs hR G => ?_)
  obtain ⟨hv, hI, hL⟩ := hR
  subst hv
  have G : GS E I L sg H locs := G.same hI hL
  refine W.eq (g2 := F0 mg 16 ls [.int (if ¬ (Int32.toInt64 (nI n)) < (1 : Int64) ∧ ¬ (1000 : Int64) < (Int32.toInt64 (nI n)) then 1 else 0)]) rfl ?_
  refine s_if_ne_b (P := ¬ (Int32.toInt64 (nI n)) < (1 : Int64) ∧ ¬ (1000 : Int64) < (Int32.toInt64 (nI n))) (tgt := 22) S dX9_ifGo_16 (by decide) (fun _ => ?_) (fun h => absurd (in64 (a := nI 1) (b := nI 1000) (inR h1 h2 (by decide)) (by decide) (by decide)) h)
  refine lv_aload_n S.1 S.2.1 dX9_ifGo_22 rfl (lv_at hl 0 rfl) ?_
  refine s_callV (C := RX9) (As := []) (rest := []) (i := 161) (kd := 9) S hX G (k_X9_keeps l E d az lx e_d e_az e_lx) (cwV (bytes := cX9_keeps) (maxL := 2) (ret := none) 0 S.2.2.2.2 gX9_ifGo_X9_keeps rfl rfl rfl (by decide +kernel) ⟨Nat.le_of_ble_eq_true rfl, Nat.le_of_ble_eq_true rfl⟩) (rfl : sh 161 = 9) rfl rfl rfl (by decide) rfl hl.1 rfl (Nat.le_of_ble_eq_true rfl) ⟨Nat.zero_le _, Nat.zero_le _⟩ dX9_ifGo_23 (fun v I1 L1 H locs hR G => ?_)
  obtain ⟨hv, hI, hL⟩ := hR
  subst hv
  obtain ⟨r_1, er_1⟩ : ∃ r : Nat → Int32, r = (va_cpy d az 0 0 270) := ⟨_, rfl⟩
  rw [← er_1] at hI
  obtain ⟨r_2, er_2⟩ : ∃ r : Nat → Int64, r = (vp_updL lx 6 (lx 3)) := ⟨_, rfl⟩
  rw [← er_2] at hL
  have G : GS E (up I 165 r_1) (upL L 161 r_2) sg H locs := G.same hI hL
  refine W.eq (g2 := F0 mg 26 ls []) rfl ?_
  refine lv_iconst (v := (0 : Int32)) S.1 S.2.1 dX9_ifGo_26 (by decide) ?_
  refine lv_istore_n (lv' := [(3, .int (0 : Int32)), (0, .ref (E.2.2.2 161)), (1, .int (1 : Int32)), (2, .int (nI n))]) S.1 S.2.1 dX9_ifGo_27 rfl hl (by decide) rfl (fun ls hl => ?_)
  refine s_loop (α := Nat) (nL := 4) (E := E) (fun nn x I' L' => nn = n - x ∧ x ≤ n ∧ I' = (up (up I 165 r_1) 162 (gsN d x)) ∧ L' = (upL L 161 (gsNX d r_2 x))) (fun x => [(3, .int (nI x)), (0, .ref (E.2.2.2 161)), (1, .int (1 : Int32)), (2, .int (nI n))]) 28 (fun x => []) (fun nn ih_3 x I1 L1 H locs ls hP G hl => ?_) _ 0 ⟨rfl, (Nat.zero_le _), (up_same ((up_ne (by decide)).trans e_d)), rfl⟩ G (lv_sub hl [0, 1, 2, 3] rfl)
  obtain ⟨k, rfl⟩ : ∃ z, z = x := ⟨x, rfl⟩
  obtain ⟨hn, hk, hIc, hLc⟩ := hP
  have hn : nn = n - k := hn
  obtain ⟨I_b, rfl⟩ : ∃ z, z = I1 := ⟨I1, rfl⟩
  obtain ⟨L_b, rfl⟩ : ∃ z, z = L1 := ⟨L1, rfl⟩
  have hk : k ≤ n := hk
  have hIc : I_b = (up (up I 165 r_1) 162 (gsN d k)) := hIc
  have hLc : L_b = (upL L 161 (gsNX d r_2 k)) := hLc
  have hl : lv_has ls 4 [(3, .int (nI k)), (0, .ref (E.2.2.2 161)), (1, .int (1 : Int32)), (2, .int (nI n))] := hl
  refine W.eq (g2 := F0 mg 28 ls []) rfl ?_
  have G : GS E (up (up I 165 r_1) 162 (gsN d k)) (upL L 161 (gsNX d r_2 k)) sg H locs := G.same hIc hLc
  rcases Nat.lt_or_ge k n with hlt | hge
  · have hlt : k < n := hlt
    refine lv_iload_n S.1 S.2.1 dX9_ifGo_28 rfl (lv_at hl 0 rfl) ?_
    refine lv_iload_n S.1 S.2.1 dX9_ifGo_29 rfl (lv_at hl 3 rfl) ?_
    refine lv_icmp_ge (tgt := 44) S.1 S.2.1 dX9_ifGo_30 (by decide) (fun h => absurd h (nI_ge hlt (by omega))) (fun _ => ?_)
    refine lv_aload_n S.1 S.2.1 dX9_ifGo_33 rfl (lv_at hl 1 rfl) ?_
    refine s_callV (C := RX9) (As := []) (rest := []) (i := 161) (kd := 9) S hX G (k_X9_goes2 l E (gsN d k) (gsNX d r_2 k) up_eq upL_eq (cmdsN (n := k) hc)) (cwV (bytes := cX9_goes) (maxL := 4) (ret := (some .int)) 0 S.2.2.2.2 gX9_ifGo_X9_goes rfl rfl rfl (by decide +kernel) ⟨Nat.le_of_ble_eq_true rfl, Nat.le_of_ble_eq_true rfl⟩) (rfl : sh 161 = 9) rfl rfl rfl (by decide) rfl hl.1 rfl (Nat.le_of_ble_eq_true rfl) ⟨Nat.zero_le _, Nat.zero_le _⟩ dX9_ifGo_34 (fun v I1 L1 H locs hR G => ?_)
    obtain ⟨hv, hI, hL⟩ := hR
    subst hv
    have hI : I1 = (up (up (up I 165 r_1) 162 (gsN d k)) 162 (gsN d (k + 1))) := hI
    have hL : L1 = (upL (upL L 161 (gsNX d r_2 k)) 161 (gsNX d r_2 (k + 1))) := hL
    have G : GS E (up (up I 165 r_1) 162 (gsN d (k + 1))) (upL L 161 (gsNX d r_2 (k + 1))) sg H locs := G.same (hI.trans (by rw [up_up])) (hL.trans (by rw [upL_upL]))
    refine W.eq (g2 := F0 mg 37 ls [.int (gsR (gsN d k))]) rfl ?_
    refine lv_pop S.1 S.2.1 dX9_ifGo_37 rfl ?_
    refine lv_iinc (v := (nI (k + 1))) (lv' := [(3, .int (nI (k + 1))), (0, .ref (E.2.2.2 161)), (1, .int (1 : Int32)), (2, .int (nI n))]) S.1 S.2.1 dX9_ifGo_38 hl (k := 0) rfl (nI_1 k) (by decide) rfl (fun ls hl => ?_)
    refine lv_goto (tgt := 28) S.1 S.2.1 dX9_ifGo_41 (by decide) ?_
    exact ih_3 _ (show n - (k + 1) < nn by omega) (k + 1) _ _ _ _ _ ⟨rfl, (by omega), rfl, rfl⟩ G (lv_sub hl [0, 1, 2, 3] rfl)
  · have hkn : n = k := by omega
    subst hkn
    refine lv_iload_n S.1 S.2.1 dX9_ifGo_28 rfl (lv_at hl 0 rfl) ?_
    refine lv_iload_n S.1 S.2.1 dX9_ifGo_29 rfl (lv_at hl 3 rfl) ?_
    refine lv_icmp_ge (tgt := 44) S.1 S.2.1 dX9_ifGo_30 (by decide) (fun _ => ?_) (fun h => absurd (nI_le (by omega) (by omega)) h)
    refine lv_aload_n S.1 S.2.1 dX9_ifGo_44 rfl (lv_at hl 1 rfl) ?_
    refine s_get S hX G (i := 161) (kd := 9) (a := (I 161)) (v := .ref (E.2.2.2 162)) (C := RX9) (T := TX9) (N := 13) 0 (rfl : sh 161 = 9) ((up_ne (by decide)).trans (up_ne (by decide))) rfl rfl (by decide) rfl (fun _ h => (List.mem_cons_of_mem _ (List.mem_append_right _ h))) (by decide) (List.mem_of_getElem? (i := 3) rfl) (fun _ h => h) dX9_ifGo_45 ?_
    refine lv_iload_n S.1 S.2.1 dX9_ifGo_48 rfl (lv_at hl 2 rfl) ?_
    refine s_callS (As := [.int (1 : Int32)]) (rest := [.ref (E.2.2.2 162)]) S hX G (k_X9_loadAt_1 l E) (va_cwS (bytes := cX9_loadAt) (maxL := 1) (ret := (some .int)) 1 S.2.2.2.2 gX9_ifGo_X9_loadAt rfl rfl rfl (by decide +kernel) ⟨Nat.le_of_ble_eq_true rfl, Nat.le_of_ble_eq_true rfl⟩) rfl hl.1 rfl (Nat.le_of_ble_eq_true rfl) ⟨Nat.zero_le _, Nat.zero_le _⟩ dX9_ifGo_49 (fun v I1 L1 H locs hR G => ?_)
    obtain ⟨hv, hI, hL⟩ := hR
    subst hv
    have G : GS E (up (up I 165 r_1) 162 (gsN d n)) (upL L 161 (gsNX d r_2 n)) sg H locs := G.same hI hL
    refine W.eq (g2 := F0 mg 52 ls [.int (70 : Int32), .ref (E.2.2.2 162)]) rfl ?_
    refine lv_iconst (v := (4 : Int32)) S.1 S.2.1 dX9_ifGo_52 (by decide) ?_
    refine s_iadd (v := (74 : Int32)) S dX9_ifGo_53 (by decide) ?_
    refine s_iald S hX G (i := 162) (kd := 284) (n := 270) (a := (gsN d n)) (x := ((gsN d n) 74)) (rfl : sh 162 = 284) up_eq rfl (by decide) (by unfold vp_in; decide) (congrArg (gsN d n) (by decide)) dX9_ifGo_54 ?_
    refine lv_istore_n (lv' := [(3, .int ((gsN d n) 74)), (0, .ref (E.2.2.2 161)), (1, .int (1 : Int32)), (2, .int (nI n))]) S.1 S.2.1 dX9_ifGo_55 rfl hl (by decide) rfl (fun ls hl => ?_)
    refine lv_aload_n S.1 S.2.1 dX9_ifGo_56 rfl (lv_at hl 1 rfl) ?_
    refine s_callV (C := RX9) (As := []) (rest := []) (i := 161) (kd := 9) S hX G (k_X9_restores l E (gsN d n) r_1 (gsNX d r_2 n) up_eq ((up_ne (by decide)).trans up_eq) upL_eq) (cwV (bytes := cX9_restores) (maxL := 2) (ret := none) 0 S.2.2.2.2 gX9_ifGo_X9_restores rfl rfl rfl (by decide +kernel) ⟨Nat.le_of_ble_eq_true rfl, Nat.le_of_ble_eq_true rfl⟩) (rfl : sh 161 = 9) rfl rfl rfl (by decide) rfl hl.1 rfl (Nat.le_of_ble_eq_true rfl) ⟨Nat.zero_le _, Nat.zero_le _⟩ dX9_ifGo_57 (fun v I1 L1 H locs hR G => ?_)
    obtain ⟨hv, hI, hL⟩ := hR
    subst hv
    obtain ⟨r_4, er_4⟩ : ∃ r : Nat → Int32, r = (va_cpy r_1 (gsN d n) 0 0 270) := ⟨_, rfl⟩
    rw [← er_4] at hI
    obtain ⟨r_5, er_5⟩ : ∃ r : Nat → Int64, r = (vp_updL (gsNX d r_2 n) 3 ((gsNX d r_2 n) 6)) := ⟨_, rfl⟩
    rw [← er_5] at hL
    have G : GS E (up (up I 165 r_1) 162 r_4) (upL L 161 r_5) sg H locs := G.same (hI.trans (by rw [up_up])) (hL.trans (by rw [upL_upL]))
    refine W.eq (g2 := F0 mg 60 ls []) rfl ?_
    refine lv_iload_n S.1 S.2.1 dX9_ifGo_60 rfl (lv_at hl 0 rfl) ?_
    refine s_iret (x := ((gsN d n) 74)) S G hr hlk dX9_ifGo_61 ?_
    exact ⟨(congrArg (fun q : Int32 => some (Value.int q)) (show ((gsN d n) 74) = (gsN d n 74) by subst er_5 er_4 er_2 er_1; rfl)), (st_eq2 (Eq.trans ((up_ne (by decide)).trans up_eq) (show r_1 = (va_cpy d az 0 0 270) by subst er_5 er_4 er_2 er_1; rfl)) (Eq.trans up_eq (show r_4 = (va_cpy (va_cpy d az 0 0 270) (gsN d n) 0 0 270) by subst er_5 er_4 er_2 er_1; rfl)) (fun _ g0 g1 => ((up_ne g1).trans (up_ne g0)))), (lt_eq1 (Eq.trans upL_eq (show r_5 = (vp_updL (gsNX d (vp_updL lx 6 (lx 3)) n) 3 (gsNX d (vp_updL lx 6 (lx 3)) n 6)) by subst er_5 er_4 er_2 er_1; rfl)) (fun _ g0 => (upL_ne g0)))⟩
set_option maxHeartbeats 4000000 in
set_option maxRecDepth 100000 in
theorem k_X9_until_ok_1 (l : Launch) (E : Ev) {I : SI} {L : SL} (am : Int32) (d : Nat → Int32) (az : Nat → Int32) (lx : Nat → Int64) (e_d : I (162) = d) (e_az : I (165) = az) (e_lx : L (161) = lx) (ht : INR am 1 1000000) (hc : cmdsM d) : CS l yX9_until wsX9_until ({ frames := 5, cells := 0, slots := 0, locals := 112 }) E [.ref (E.2.2.2 161), .int (1 : Int32), .int am] I L (fun vv I' L' => (∃ x, vv = some (.int x) ∧ UntS (fun j => absM (gsN d j 74)) am x) ∧ ∃ m, I' = (up (up I 165 (va_cpy d az 0 0 270)) 162 (va_cpy (va_cpy d az 0 0 270) (gsN d m) 0 0 270)) ∧ L' = (upL L 161 (vp_updL (gsNX d (vp_updL lx 6 (lx 3)) m) 3 (gsNX d (vp_updL lx 6 (lx 3)) m 6)))) := by
  refine CS.of (cc := cX9_until) (maxL := 5) (ret := (some .int)) (by decide) rfl (Nat.le_of_ble_eq_true rfl) ?_
  intro pg en sg mg below meth cg ls S hr hlk hX G hl
  have S : CallFix pg mg cg cX9_until 5 sg _ wsX9_until RX9 := S
  have hl : lv_has ls 5 [(0, .ref (E.2.2.2 161)), (1, .int (1 : Int32)), (2, .int am)] := hl
  refine lv_iload_n S.1 S.2.1 dX9_until_0 rfl (lv_at hl 1 rfl) ?_
  refine s_callS (As := [.int (1 : Int32)]) (rest := []) S hX G (k_X9_isLoad l E (1 : Int32)) (va_cwS (bytes := cX9_isLoad) (maxL := 1) (ret := (some .boolean)) 1 S.2.2.2.2 gX9_until_X9_isLoad rfl rfl rfl (by decide +kernel) ⟨Nat.le_of_ble_eq_true rfl, Nat.le_of_ble_eq_true rfl⟩) rfl hl.1 rfl (Nat.le_of_ble_eq_true rfl) ⟨Nat.zero_le _, Nat.zero_le _⟩ dX9_until_1 (fun v I1 L1 H locs hR G => ?_)
  obtain ⟨hv, hI, hL⟩ := hR
  subst hv
  have G : GS E I L sg H locs := G.same hI hL
  refine W.eq (g2 := F0 mg 4 ls [.int (if ¬ (1 : Int32) < (0 : Int32) ∧ ¬ (1 : Int32) < (1 : Int32) then 1 else 0)]) rfl ?_
  refine s_if_eq_b (P := ¬ (1 : Int32) < (0 : Int32) ∧ ¬ (1 : Int32) < (1 : Int32)) (tgt := 19) S dX9_until_4 (by decide) (fun h => absurd (by decide) h) (fun _ => ?_)
  refine lv_iload_n S.1 S.2.1 dX9_until_7 rfl (lv_at hl 2 rfl) ?_
  refine lv_i2l (v := (Int32.toInt64 am)) S.1 S.2.1 dX9_until_8 rfl ?_
  refine lv_lconst (v := (1 : Int64)) S.1 S.2.1 dX9_until_9 (by decide) ?_
  refine lv_ldc2 (v := (1000000 : Int64)) S.1 S.2.1 S.2.2.2.1 (S.2.2.2.2 _ (List.mem_of_getElem? (i := 1) rfl)) dX9_until_10 ?_
  refine s_callS (As := [.long (Int32.toInt64 am), .long (1 : Int64), .long (1000000 : Int64)]) (rest := []) S hX G (k_X9_in l E (Int32.toInt64 am) (1 : Int64) (1000000 : Int64)) (va_cwS (bytes := cX9_in) (maxL := 6) (ret := (some .boolean)) 3 S.2.2.2.2 gX9_until_X9_in rfl rfl rfl (by decide +kernel) ⟨Nat.le_of_ble_eq_true rfl, Nat.le_of_ble_eq_true rfl⟩) rfl hl.1 rfl (Nat.le_of_ble_eq_true rfl) ⟨Nat.zero_le _, Nat.zero_le _⟩ dX9_until_13 (fun v I1 L1 H locs hR G => ?_)
  obtain ⟨hv, hI, hL⟩ := hR
  subst hv
  have G : GS E I L sg H locs := G.same hI hL
  refine W.eq (g2 := F0 mg 16 ls [.int (if ¬ (Int32.toInt64 am) < (1 : Int64) ∧ ¬ (1000000 : Int64) < (Int32.toInt64 am) then 1 else 0)]) rfl ?_
  refine s_if_ne_b (P := ¬ (Int32.toInt64 am) < (1 : Int64) ∧ ¬ (1000000 : Int64) < (Int32.toInt64 am)) (tgt := 22) S dX9_until_16 (by decide) (fun _ => ?_) (fun h => absurd (in64 (a := 1) (b := 1000000) ht (by decide) (by decide)) h)
  refine lv_aload_n S.1 S.2.1 dX9_until_22 rfl (lv_at hl 0 rfl) ?_
  refine s_callV (C := RX9) (As := []) (rest := []) (i := 161) (kd := 9) S hX G (k_X9_keeps l E d az lx e_d e_az e_lx) (cwV (bytes := cX9_keeps) (maxL := 2) (ret := none) 0 S.2.2.2.2 gX9_until_X9_keeps rfl rfl rfl (by decide +kernel) ⟨Nat.le_of_ble_eq_true rfl, Nat.le_of_ble_eq_true rfl⟩) (rfl : sh 161 = 9) rfl rfl rfl (by decide) rfl hl.1 rfl (Nat.le_of_ble_eq_true rfl) ⟨Nat.zero_le _, Nat.zero_le _⟩ dX9_until_23 (fun v I1 L1 H locs hR G => ?_)
  obtain ⟨hv, hI, hL⟩ := hR
  subst hv
  obtain ⟨r_1, er_1⟩ : ∃ r : Nat → Int32, r = (va_cpy d az 0 0 270) := ⟨_, rfl⟩
  rw [← er_1] at hI
  obtain ⟨r_2, er_2⟩ : ∃ r : Nat → Int64, r = (vp_updL lx 6 (lx 3)) := ⟨_, rfl⟩
  rw [← er_2] at hL
  have G : GS E (up I 165 r_1) (upL L 161 r_2) sg H locs := G.same hI hL
  refine W.eq (g2 := F0 mg 26 ls []) rfl ?_
  refine lv_iconst (v := (0 : Int32)) S.1 S.2.1 dX9_until_26 (by decide) ?_
  refine lv_istore_n (lv' := [(3, .int (0 : Int32)), (0, .ref (E.2.2.2 161)), (1, .int (1 : Int32)), (2, .int am)]) S.1 S.2.1 dX9_until_27 rfl hl (by decide) rfl (fun ls hl => ?_)
  refine s_loop (α := Nat) (nL := 5) (E := E) (fun nn x I' L' => nn = 1000 - x ∧ x ≤ 1000 ∧ (∀ j, j < x → ¬ am ≤ absM (gsN d j 74)) ∧ I' = (up (up I 165 r_1) 162 (gsN d x)) ∧ L' = (upL L 161 (gsNX d r_2 x))) (fun x => [(3, .int (nI x)), (0, .ref (E.2.2.2 161)), (1, .int (1 : Int32)), (2, .int am)]) 28 (fun x => []) (fun nn ih_3 x I1 L1 H locs ls hP G hl => ?_) _ 0 ⟨rfl, (Nat.zero_le _), all_0, (up_same ((up_ne (by decide)).trans e_d)), rfl⟩ G (lv_sub hl [0, 1, 2, 3] rfl)
  obtain ⟨k, rfl⟩ : ∃ z, z = x := ⟨x, rfl⟩
  obtain ⟨hn, hk, hno, hIc, hLc⟩ := hP
  have hn : nn = 1000 - k := hn
  obtain ⟨I_b, rfl⟩ : ∃ z, z = I1 := ⟨I1, rfl⟩
  obtain ⟨L_b, rfl⟩ : ∃ z, z = L1 := ⟨L1, rfl⟩
  have hk : k ≤ 1000 := hk
  have hno : (∀ j, j < k → ¬ am ≤ absM (gsN d j 74)) := hno
  have hIc : I_b = (up (up I 165 r_1) 162 (gsN d k)) := hIc
  have hLc : L_b = (upL L 161 (gsNX d r_2 k)) := hLc
  have hl : lv_has ls 5 [(3, .int (nI k)), (0, .ref (E.2.2.2 161)), (1, .int (1 : Int32)), (2, .int am)] := hl
  refine W.eq (g2 := F0 mg 28 ls []) rfl ?_
  have G : GS E (up (up I 165 r_1) 162 (gsN d k)) (upL L 161 (gsNX d r_2 k)) sg H locs := G.same hIc hLc
  refine lv_aload_n S.1 S.2.1 dX9_until_28 rfl (lv_at hl 1 rfl) ?_
  refine lv_iload_n S.1 S.2.1 dX9_until_29 rfl (lv_at hl 2 rfl) ?_
  refine s_callV (C := RX9) (As := [.int (1 : Int32)]) (rest := []) (i := 161) (kd := 9) S hX G (k_X9_sizeOf_1 l E (gsN d k) up_eq) (cwV (bytes := cX9_sizeOf) (maxL := 3) (ret := (some .int)) 1 S.2.2.2.2 gX9_until_X9_sizeOf rfl rfl rfl (by decide +kernel) ⟨Nat.le_of_ble_eq_true rfl, Nat.le_of_ble_eq_true rfl⟩) (rfl : sh 161 = 9) rfl rfl rfl (by decide) rfl hl.1 rfl (Nat.le_of_ble_eq_true rfl) ⟨Nat.zero_le _, Nat.zero_le _⟩ dX9_until_30 (fun v I1 L1 H locs hR G => ?_)
  obtain ⟨hv, hI, hL⟩ := hR
  subst hv
  have G : GS E (up (up I 165 r_1) 162 (gsN d k)) (upL L 161 (gsNX d r_2 k)) sg H locs := G.same hI hL
  refine W.eq (g2 := F0 mg 33 ls [.int (absM ((gsN d k) 74))]) rfl ?_
  refine lv_iload_n S.1 S.2.1 dX9_until_33 rfl (lv_at hl 3 rfl) ?_
  refine lv_icmp_ge (tgt := 55) S.1 S.2.1 dX9_until_34 (by decide) (fun c_4 => ?_) (fun c_4 => ?_)
  · refine lv_aload_n S.1 S.2.1 dX9_until_55 rfl (lv_at hl 1 rfl) ?_
    refine lv_iload_n S.1 S.2.1 dX9_until_56 rfl (lv_at hl 2 rfl) ?_
    refine s_callV (C := RX9) (As := [.int (1 : Int32)]) (rest := []) (i := 161) (kd := 9) S hX G (k_X9_sizeOf_1 l E (gsN d k) up_eq) (cwV (bytes := cX9_sizeOf) (maxL := 3) (ret := (some .int)) 1 S.2.2.2.2 gX9_until_X9_sizeOf rfl rfl rfl (by decide +kernel) ⟨Nat.le_of_ble_eq_true rfl, Nat.le_of_ble_eq_true rfl⟩) (rfl : sh 161 = 9) rfl rfl rfl (by decide) rfl hl.1 rfl (Nat.le_of_ble_eq_true rfl) ⟨Nat.zero_le _, Nat.zero_le _⟩ dX9_until_57 (fun v I1 L1 H locs hR G => ?_)
    obtain ⟨hv, hI, hL⟩ := hR
    subst hv
    have G : GS E (up (up I 165 r_1) 162 (gsN d k)) (upL L 161 (gsNX d r_2 k)) sg H locs := G.same hI hL
    refine W.eq (g2 := F0 mg 60 ls [.int (absM ((gsN d k) 74))]) rfl ?_
    refine lv_iload_n S.1 S.2.1 dX9_until_60 rfl (lv_at hl 3 rfl) ?_
    refine lv_icmp_lt (tgt := 68) S.1 S.2.1 dX9_until_61 (by decide) (fun h => absurd h (Int32.not_lt.mpr c_4)) (fun _ => ?_)
    refine lv_iconst (v := (1 : Int32)) S.1 S.2.1 dX9_until_64 (by decide) ?_
    refine lv_goto (tgt := 69) S.1 S.2.1 dX9_until_65 (by decide) ?_
    refine lv_istore (lv' := [(4, .int (1 : Int32)), (3, .int (nI k)), (0, .ref (E.2.2.2 161)), (1, .int (1 : Int32)), (2, .int am)]) S.1 S.2.1 dX9_until_69 hl (by decide) rfl (fun ls hl => ?_)
    refine lv_aload_n S.1 S.2.1 dX9_until_71 rfl (lv_at hl 2 rfl) ?_
    refine s_callV (C := RX9) (As := []) (rest := []) (i := 161) (kd := 9) S hX G (k_X9_restores l E (gsN d k) r_1 (gsNX d r_2 k) up_eq ((up_ne (by decide)).trans up_eq) upL_eq) (cwV (bytes := cX9_restores) (maxL := 2) (ret := none) 0 S.2.2.2.2 gX9_until_X9_restores rfl rfl rfl (by decide +kernel) ⟨Nat.le_of_ble_eq_true rfl, Nat.le_of_ble_eq_true rfl⟩) (rfl : sh 161 = 9) rfl rfl rfl (by decide) rfl hl.1 rfl (Nat.le_of_ble_eq_true rfl) ⟨Nat.zero_le _, Nat.zero_le _⟩ dX9_until_72 (fun v I1 L1 H locs hR G => ?_)
    obtain ⟨hv, hI, hL⟩ := hR
    subst hv
    obtain ⟨r_5, er_5⟩ : ∃ r : Nat → Int32, r = (va_cpy r_1 (gsN d k) 0 0 270) := ⟨_, rfl⟩
    rw [← er_5] at hI
    obtain ⟨r_6, er_6⟩ : ∃ r : Nat → Int64, r = (vp_updL (gsNX d r_2 k) 3 ((gsNX d r_2 k) 6)) := ⟨_, rfl⟩
    rw [← er_6] at hL
    have G : GS E (up (up I 165 r_1) 162 r_5) (upL L 161 r_6) sg H locs := G.same (hI.trans (by rw [up_up])) (hL.trans (by rw [upL_upL]))
    refine W.eq (g2 := F0 mg 75 ls []) rfl ?_
    refine lv_iload S.1 S.2.1 dX9_until_75 (lv_at hl 0 rfl) ?_
    refine lv_if_eq (tgt := 84) S.1 S.2.1 dX9_until_77 (by decide) (fun h => absurd h (by decide)) (fun _ => ?_)
    refine lv_iload_n S.1 S.2.1 dX9_until_80 rfl (lv_at hl 1 rfl) ?_
    refine lv_goto (tgt := 86) S.1 S.2.1 dX9_until_81 (by decide) ?_
    refine s_iret (x := (nI k)) S G hr hlk dX9_until_86 ?_
    exact by subst er_6 er_5 er_2 er_1; exact ⟨⟨_, rfl, Or.inl ⟨k, hk, hno, c_4, rfl⟩⟩, k, rfl, rfl⟩
  · rcases Nat.lt_or_ge k 1000 with hlt | hge
    · have hlt : k < 1000 := hlt
      refine lv_iload_n S.1 S.2.1 dX9_until_37 rfl (lv_at hl 0 rfl) ?_
      refine lv_sipush (v := (1000 : Int32)) S.1 S.2.1 dX9_until_38 (by decide) ?_
      refine lv_icmp_ge (tgt := 55) S.1 S.2.1 dX9_until_41 (by decide) (fun h => absurd h (nI_ge (b := 1000) hlt (by decide))) (fun _ => ?_)
      refine lv_aload_n S.1 S.2.1 dX9_until_44 rfl (lv_at hl 1 rfl) ?_
      refine s_callV (C := RX9) (As := []) (rest := []) (i := 161) (kd := 9) S hX G (k_X9_goes2 l E (gsN d k) (gsNX d r_2 k) up_eq upL_eq (cmdsN (n := k) hc)) (cwV (bytes := cX9_goes) (maxL := 4) (ret := (some .int)) 0 S.2.2.2.2 gX9_until_X9_goes rfl rfl rfl (by decide +kernel) ⟨Nat.le_of_ble_eq_true rfl, Nat.le_of_ble_eq_true rfl⟩) (rfl : sh 161 = 9) rfl rfl rfl (by decide) rfl hl.1 rfl (Nat.le_of_ble_eq_true rfl) ⟨Nat.zero_le _, Nat.zero_le _⟩ dX9_until_45 (fun v I1 L1 H locs hR G => ?_)
      obtain ⟨hv, hI, hL⟩ := hR
      subst hv
      have hI : I1 = (up (up (up I 165 r_1) 162 (gsN d k)) 162 (gsN d (k + 1))) := hI
      have hL : L1 = (upL (upL L 161 (gsNX d r_2 k)) 161 (gsNX d r_2 (k + 1))) := hL
      have G : GS E (up (up I 165 r_1) 162 (gsN d (k + 1))) (upL L 161 (gsNX d r_2 (k + 1))) sg H locs := G.same (hI.trans (by rw [up_up])) (hL.trans (by rw [upL_upL]))
      refine W.eq (g2 := F0 mg 48 ls [.int (gsR (gsN d k))]) rfl ?_
      refine lv_pop S.1 S.2.1 dX9_until_48 rfl ?_
      refine lv_iinc (v := (nI (k + 1))) (lv' := [(3, .int (nI (k + 1))), (0, .ref (E.2.2.2 161)), (1, .int (1 : Int32)), (2, .int am)]) S.1 S.2.1 dX9_until_49 hl (k := 0) rfl (nI_1 k) (by decide) rfl (fun ls hl => ?_)
      refine lv_goto (tgt := 28) S.1 S.2.1 dX9_until_52 (by decide) ?_
      exact ih_3 _ (show 1000 - (k + 1) < nn by omega) (k + 1) _ _ _ _ _ ⟨rfl, (by omega), (all_s hno c_4), rfl, rfl⟩ G (lv_sub hl [0, 1, 2, 3] rfl)
    · have hkn : k = 1000 := by omega
      subst hkn
      refine lv_iload_n S.1 S.2.1 dX9_until_37 rfl (lv_at hl 0 rfl) ?_
      refine lv_sipush (v := (1000 : Int32)) S.1 S.2.1 dX9_until_38 (by decide) ?_
      refine lv_icmp_ge (tgt := 55) S.1 S.2.1 dX9_until_41 (by decide) (fun _ => ?_) (fun h => absurd (nI_le (a := 1000) (b := 1000) (by decide) (by decide)) h)
      refine lv_aload_n S.1 S.2.1 dX9_until_55 rfl (lv_at hl 1 rfl) ?_
      refine lv_iload_n S.1 S.2.1 dX9_until_56 rfl (lv_at hl 2 rfl) ?_
      refine s_callV (C := RX9) (As := [.int (1 : Int32)]) (rest := []) (i := 161) (kd := 9) S hX G (k_X9_sizeOf_1 l E (gsN d 1000) up_eq) (cwV (bytes := cX9_sizeOf) (maxL := 3) (ret := (some .int)) 1 S.2.2.2.2 gX9_until_X9_sizeOf rfl rfl rfl (by decide +kernel) ⟨Nat.le_of_ble_eq_true rfl, Nat.le_of_ble_eq_true rfl⟩) (rfl : sh 161 = 9) rfl rfl rfl (by decide) rfl hl.1 rfl (Nat.le_of_ble_eq_true rfl) ⟨Nat.zero_le _, Nat.zero_le _⟩ dX9_until_57 (fun v I1 L1 H locs hR G => ?_)
      obtain ⟨hv, hI, hL⟩ := hR
      subst hv
      have G : GS E (up (up I 165 r_1) 162 (gsN d 1000)) (upL L 161 (gsNX d r_2 1000)) sg H locs := G.same hI hL
      refine W.eq (g2 := F0 mg 60 ls [.int (absM ((gsN d 1000) 74))]) rfl ?_
      refine lv_iload_n S.1 S.2.1 dX9_until_60 rfl (lv_at hl 3 rfl) ?_
      refine lv_icmp_lt (tgt := 68) S.1 S.2.1 dX9_until_61 (by decide) (fun _ => ?_) (fun h => absurd (Int32.not_le.mp c_4) h)
      refine lv_iconst (v := (0 : Int32)) S.1 S.2.1 dX9_until_68 (by decide) ?_
      refine lv_istore (lv' := [(4, .int (0 : Int32)), (3, .int (nI 1000)), (0, .ref (E.2.2.2 161)), (1, .int (1 : Int32)), (2, .int am)]) S.1 S.2.1 dX9_until_69 hl (by decide) rfl (fun ls hl => ?_)
      refine lv_aload_n S.1 S.2.1 dX9_until_71 rfl (lv_at hl 2 rfl) ?_
      refine s_callV (C := RX9) (As := []) (rest := []) (i := 161) (kd := 9) S hX G (k_X9_restores l E (gsN d 1000) r_1 (gsNX d r_2 1000) up_eq ((up_ne (by decide)).trans up_eq) upL_eq) (cwV (bytes := cX9_restores) (maxL := 2) (ret := none) 0 S.2.2.2.2 gX9_until_X9_restores rfl rfl rfl (by decide +kernel) ⟨Nat.le_of_ble_eq_true rfl, Nat.le_of_ble_eq_true rfl⟩) (rfl : sh 161 = 9) rfl rfl rfl (by decide) rfl hl.1 rfl (Nat.le_of_ble_eq_true rfl) ⟨Nat.zero_le _, Nat.zero_le _⟩ dX9_until_72 (fun v I1 L1 H locs hR G => ?_)
      obtain ⟨hv, hI, hL⟩ := hR
      subst hv
      obtain ⟨r_7, er_7⟩ : ∃ r : Nat → Int32, r = (va_cpy r_1 (gsN d 1000) 0 0 270) := ⟨_, rfl⟩
      rw [← er_7] at hI
      obtain ⟨r_8, er_8⟩ : ∃ r : Nat → Int64, r = (vp_updL (gsNX d r_2 1000) 3 ((gsNX d r_2 1000) 6)) := ⟨_, rfl⟩
      rw [← er_8] at hL
      have G : GS E (up (up I 165 r_1) 162 r_7) (upL L 161 r_8) sg H locs := G.same (hI.trans (by rw [up_up])) (hL.trans (by rw [upL_upL]))
      refine W.eq (g2 := F0 mg 75 ls []) rfl ?_
      refine lv_iload S.1 S.2.1 dX9_until_75 (lv_at hl 0 rfl) ?_
      refine lv_if_eq (tgt := 84) S.1 S.2.1 dX9_until_77 (by decide) (fun _ => ?_) (fun h => absurd (by decide) h)
      refine lv_ldc (v := (-2000000004 : Int32)) S.1 S.2.1 S.2.2.2.1 (S.2.2.2.2 _ (List.mem_of_getElem? (i := 3) rfl)) dX9_until_84 ?_
      refine s_iret (x := (-2000000004 : Int32)) S G hr hlk dX9_until_86 ?_
      exact by subst er_8 er_7 er_2 er_1; exact ⟨⟨_, rfl, Or.inr ⟨fun j hj => by rcases Nat.lt_or_ge j 1000 with q | q; exact hno j q; rw [show j = 1000 by omega]; exact c_4, rfl⟩⟩, 1000, rfl, rfl⟩
set_option maxHeartbeats 4000000 in
set_option maxRecDepth 100000 in
theorem k_X9_ifGo_no (l : Launch) (E : Ev) {I : SI} {L : SL} (load : Int32) (slots : Int32) (ht : ¬ (IN1 load ∧ INR slots 1 1000)) : CS l yX9_ifGo wsX9_ifGo ({ frames := 2, cells := 0, slots := 0, locals := 45 }) E [.ref (E.2.2.2 161), .int load, .int slots] I L (fun vv I' L' => vv = some (.int (-2000000001 : Int32)) ∧ I' = I ∧ L' = L) := by
  refine CS.of (cc := cX9_ifGo) (maxL := 4) (ret := (some .int)) (by decide) rfl (Nat.le_of_ble_eq_true rfl) ?_
  intro pg en sg mg below meth cg ls S hr hlk hX G hl
  have S : CallFix pg mg cg cX9_ifGo 4 sg _ wsX9_ifGo RX9 := S
  have hl : lv_has ls 4 [(0, .ref (E.2.2.2 161)), (1, .int load), (2, .int slots)] := hl
  refine lv_iload_n S.1 S.2.1 dX9_ifGo_0 rfl (lv_at hl 1 rfl) ?_
  refine s_callS (As := [.int load]) (rest := []) S hX G (k_X9_isLoad l E load) (va_cwS (bytes := cX9_isLoad) (maxL := 1) (ret := (some .boolean)) 1 S.2.2.2.2 gX9_ifGo_X9_isLoad rfl rfl rfl (by decide +kernel) ⟨Nat.le_of_ble_eq_true rfl, Nat.le_of_ble_eq_true rfl⟩) rfl hl.1 rfl (Nat.le_of_ble_eq_true rfl) ⟨Nat.zero_le _, Nat.zero_le _⟩ dX9_ifGo_1 (fun v I1 L1 H locs hR G => ?_)
  obtain ⟨hv, hI, hL⟩ := hR
  subst hv
  have G : GS E I L sg H locs := G.same hI hL
  refine W.eq (g2 := F0 mg 4 ls [.int (if ¬ load < (0 : Int32) ∧ ¬ (1 : Int32) < load then 1 else 0)]) rfl ?_
  refine s_if_eq_b (P := ¬ load < (0 : Int32) ∧ ¬ (1 : Int32) < load) (tgt := 19) S dX9_ifGo_4 (by decide) (fun c_1 => ?_) (fun c_1 => ?_)
  · refine lv_ldc (v := (-2000000001 : Int32)) S.1 S.2.1 S.2.2.2.1 (S.2.2.2.2 _ (List.mem_of_getElem? (i := 2) rfl)) dX9_ifGo_19 ?_
    refine s_iret (x := (-2000000001 : Int32)) S G hr hlk dX9_ifGo_21 ?_
    exact ⟨rfl, rfl, rfl⟩
  · refine lv_iload_n S.1 S.2.1 dX9_ifGo_7 rfl (lv_at hl 2 rfl) ?_
    refine lv_i2l (v := (Int32.toInt64 slots)) S.1 S.2.1 dX9_ifGo_8 rfl ?_
    refine lv_lconst (v := (1 : Int64)) S.1 S.2.1 dX9_ifGo_9 (by decide) ?_
    refine lv_ldc2 (v := (1000 : Int64)) S.1 S.2.1 S.2.2.2.1 (S.2.2.2.2 _ (List.mem_of_getElem? (i := 1) rfl)) dX9_ifGo_10 ?_
    refine s_callS (As := [.long (Int32.toInt64 slots), .long (1 : Int64), .long (1000 : Int64)]) (rest := []) S hX G (k_X9_in l E (Int32.toInt64 slots) (1 : Int64) (1000 : Int64)) (va_cwS (bytes := cX9_in) (maxL := 6) (ret := (some .boolean)) 3 S.2.2.2.2 gX9_ifGo_X9_in rfl rfl rfl (by decide +kernel) ⟨Nat.le_of_ble_eq_true rfl, Nat.le_of_ble_eq_true rfl⟩) rfl hl.1 rfl (Nat.le_of_ble_eq_true rfl) ⟨Nat.zero_le _, Nat.zero_le _⟩ dX9_ifGo_13 (fun v I1 L1 H locs hR G => ?_)
    obtain ⟨hv, hI, hL⟩ := hR
    subst hv
    have G : GS E I L sg H locs := G.same hI hL
    refine W.eq (g2 := F0 mg 16 ls [.int (if ¬ (Int32.toInt64 slots) < (1 : Int64) ∧ ¬ (1000 : Int64) < (Int32.toInt64 slots) then 1 else 0)]) rfl ?_
    refine s_if_ne_b (P := ¬ (Int32.toInt64 slots) < (1 : Int64) ∧ ¬ (1000 : Int64) < (Int32.toInt64 slots)) (tgt := 22) S dX9_ifGo_16 (by decide) (fun c_2 => ?_) (fun c_2 => ?_)
    · exact absurd (And.intro c_1 (out64 (a := 1) (b := 1000) c_2 (by decide) (by decide))) ht
    · refine lv_ldc (v := (-2000000001 : Int32)) S.1 S.2.1 S.2.2.2.1 (S.2.2.2.2 _ (List.mem_of_getElem? (i := 2) rfl)) dX9_ifGo_19 ?_
      refine s_iret (x := (-2000000001 : Int32)) S G hr hlk dX9_ifGo_21 ?_
      exact ⟨rfl, rfl, rfl⟩
set_option maxHeartbeats 4000000 in
set_option maxRecDepth 100000 in
theorem k_X9_until_no (l : Launch) (E : Ev) {I : SI} {L : SL} (load : Int32) (am : Int32) (ht : ¬ (IN1 load ∧ INR am 1 1000000)) : CS l yX9_until wsX9_until ({ frames := 2, cells := 0, slots := 0, locals := 45 }) E [.ref (E.2.2.2 161), .int load, .int am] I L (fun vv I' L' => vv = some (.int (-2000000001 : Int32)) ∧ I' = I ∧ L' = L) := by
  refine CS.of (cc := cX9_until) (maxL := 5) (ret := (some .int)) (by decide) rfl (Nat.le_of_ble_eq_true rfl) ?_
  intro pg en sg mg below meth cg ls S hr hlk hX G hl
  have S : CallFix pg mg cg cX9_until 5 sg _ wsX9_until RX9 := S
  have hl : lv_has ls 5 [(0, .ref (E.2.2.2 161)), (1, .int load), (2, .int am)] := hl
  refine lv_iload_n S.1 S.2.1 dX9_until_0 rfl (lv_at hl 1 rfl) ?_
  refine s_callS (As := [.int load]) (rest := []) S hX G (k_X9_isLoad l E load) (va_cwS (bytes := cX9_isLoad) (maxL := 1) (ret := (some .boolean)) 1 S.2.2.2.2 gX9_until_X9_isLoad rfl rfl rfl (by decide +kernel) ⟨Nat.le_of_ble_eq_true rfl, Nat.le_of_ble_eq_true rfl⟩) rfl hl.1 rfl (Nat.le_of_ble_eq_true rfl) ⟨Nat.zero_le _, Nat.zero_le _⟩ dX9_until_1 (fun v I1 L1 H locs hR G => ?_)
  obtain ⟨hv, hI, hL⟩ := hR
  subst hv
  have G : GS E I L sg H locs := G.same hI hL
  refine W.eq (g2 := F0 mg 4 ls [.int (if ¬ load < (0 : Int32) ∧ ¬ (1 : Int32) < load then 1 else 0)]) rfl ?_
  refine s_if_eq_b (P := ¬ load < (0 : Int32) ∧ ¬ (1 : Int32) < load) (tgt := 19) S dX9_until_4 (by decide) (fun c_1 => ?_) (fun c_1 => ?_)
  · refine lv_ldc (v := (-2000000001 : Int32)) S.1 S.2.1 S.2.2.2.1 (S.2.2.2.2 _ (List.mem_of_getElem? (i := 2) rfl)) dX9_until_19 ?_
    refine s_iret (x := (-2000000001 : Int32)) S G hr hlk dX9_until_21 ?_
    exact ⟨rfl, rfl, rfl⟩
  · refine lv_iload_n S.1 S.2.1 dX9_until_7 rfl (lv_at hl 2 rfl) ?_
    refine lv_i2l (v := (Int32.toInt64 am)) S.1 S.2.1 dX9_until_8 rfl ?_
    refine lv_lconst (v := (1 : Int64)) S.1 S.2.1 dX9_until_9 (by decide) ?_
    refine lv_ldc2 (v := (1000000 : Int64)) S.1 S.2.1 S.2.2.2.1 (S.2.2.2.2 _ (List.mem_of_getElem? (i := 1) rfl)) dX9_until_10 ?_
    refine s_callS (As := [.long (Int32.toInt64 am), .long (1 : Int64), .long (1000000 : Int64)]) (rest := []) S hX G (k_X9_in l E (Int32.toInt64 am) (1 : Int64) (1000000 : Int64)) (va_cwS (bytes := cX9_in) (maxL := 6) (ret := (some .boolean)) 3 S.2.2.2.2 gX9_until_X9_in rfl rfl rfl (by decide +kernel) ⟨Nat.le_of_ble_eq_true rfl, Nat.le_of_ble_eq_true rfl⟩) rfl hl.1 rfl (Nat.le_of_ble_eq_true rfl) ⟨Nat.zero_le _, Nat.zero_le _⟩ dX9_until_13 (fun v I1 L1 H locs hR G => ?_)
    obtain ⟨hv, hI, hL⟩ := hR
    subst hv
    have G : GS E I L sg H locs := G.same hI hL
    refine W.eq (g2 := F0 mg 16 ls [.int (if ¬ (Int32.toInt64 am) < (1 : Int64) ∧ ¬ (1000000 : Int64) < (Int32.toInt64 am) then 1 else 0)]) rfl ?_
    refine s_if_ne_b (P := ¬ (Int32.toInt64 am) < (1 : Int64) ∧ ¬ (1000000 : Int64) < (Int32.toInt64 am)) (tgt := 22) S dX9_until_16 (by decide) (fun c_2 => ?_) (fun c_2 => ?_)
    · exact absurd (And.intro c_1 (out64 (a := 1) (b := 1000000) c_2 (by decide) (by decide))) ht
    · refine lv_ldc (v := (-2000000001 : Int32)) S.1 S.2.1 S.2.2.2.1 (S.2.2.2.2 _ (List.mem_of_getElem? (i := 2) rfl)) dX9_until_19 ?_
      refine s_iret (x := (-2000000001 : Int32)) S G hr hlk dX9_until_21 ?_
      exact ⟨rfl, rfl, rfl⟩
