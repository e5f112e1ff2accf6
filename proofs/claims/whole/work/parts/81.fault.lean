def fpG (g : Nat → Int32) (n : Nat) : Nat → Nat → Int32 → Int32
  | 0, _, x => if x = 0 then -1 else nI n
  | r + 1, k, x => if (g k = 59 ∧ ¬ x ≤ 5) ∧ ¬ (¬ sbL g k 0 1 < 1 ∧ ¬ 500 < sbL g k 0 1) then nI k - (x - 5) else if ebF x (g k) = -1 then nI k else fpG g n r (k + 1) (ebF x (g k))
set_option maxHeartbeats 4000000 in
set_option maxRecDepth 100000 in
theorem k_X7_faultPlace (l : Launch) (E : Ev) {I : SI} {L : SL} (i : Nat) (x : Nat → Int32) (g : Nat → Int32) (n : Nat) (hi : sh (i) = 7) (hi_1 : sh (i+1) = 11) (e_x : I (i) = x) (e_g : I (i+1) = g) (hx : x 1 = nI n) (hn80 : n ≤ 80) (hg : ∀ j, j < n → chr (g j)) : CS l yX7_faultPlace wsX7_faultPlace ({ frames := 3, cells := 0, slots := 0, locals := 67 }) E [.ref (E.2.2.2 i)] I L (fun vv I' L' => vv = some (.int (fpG g n n 0 0)) ∧ I' = I ∧ L' = L) := by
  refine CS.of (cc := cX7_faultPlace) (maxL := 5) (ret := (some .int)) (by decide) rfl (Nat.le_of_ble_eq_true rfl) ?_
  intro pg en sg mg below meth cg ls S hr hlk hX G hl
  have S : CallFix pg mg cg cX7_faultPlace 5 sg _ wsX7_faultPlace RX7 := S
  have hl : lv_has ls 5 [(0, .ref (E.2.2.2 i))] := hl
  refine lv_iconst (v := (0 : Int32)) S.1 S.2.1 dX7_faultPlace_0 (by decide) ?_
  refine lv_istore_n (lv' := [(1, .int (0 : Int32)), (0, .ref (E.2.2.2 i))]) S.1 S.2.1 dX7_faultPlace_1 rfl hl (by decide) rfl (fun ls hl => ?_)
  refine lv_iconst (v := (0 : Int32)) S.1 S.2.1 dX7_faultPlace_2 (by decide) ?_
  refine lv_istore_n (lv' := [(2, .int (0 : Int32)), (1, .int (0 : Int32)), (0, .ref (E.2.2.2 i))]) S.1 S.2.1 dX7_faultPlace_3 rfl hl (by decide) rfl (fun ls hl => ?_)
  refine s_loop (α := Nat × Nat × Int32) (nL := 5) (E := E) (fun nn x I' L' => nn = x.1 ∧ x.1 + x.2.1 = n ∧ fpG g n x.1 x.2.1 x.2.2 = fpG g n n 0 0 ∧ I' = I ∧ L' = L) (fun x => [(1, .int x.2.2), (2, .int (nI x.2.1)), (0, .ref (E.2.2.2 i))]) 4 (fun x => []) (fun nn ih_1 x I1 L1 H locs ls hP G hl => ?_) _ (n, 0, 0) ⟨rfl, (show n + 0 = n by omega), rfl, rfl, rfl⟩ G (lv_sub hl [1, 0, 2] rfl)
  obtain ⟨r, k, xx⟩ := x
  obtain ⟨hn, hrk, hs, hI, hL⟩ := hP
  have hn : nn = r := hn
  have G : GS E I L sg H locs := G.same hI hL
  have hrk : r + k = n := hrk
  have hs : fpG g n r k xx = fpG g n n 0 0 := hs
  have hl : lv_has ls 5 [(1, .int xx), (2, .int (nI k)), (0, .ref (E.2.2.2 i))] := hl
  refine W.eq (g2 := F0 mg 4 ls []) rfl ?_
  rcases r with _ | r
  · have hkn : n = k := by omega
    subst hkn
    refine lv_iload_n S.1 S.2.1 dX7_faultPlace_4 rfl (lv_at hl 1 rfl) ?_
    refine lv_aload_n S.1 S.2.1 dX7_faultPlace_5 rfl (lv_at hl 2 rfl) ?_
    refine s_get S hX G (i := i) (kd := 7) (a := x) (v := .int (x 1)) (C := RX7) (T := TX7) (N := 2) 1 hi e_x rfl rfl (by decide) rfl (fun _ h => (List.mem_cons_of_mem _ (List.mem_append_right _ h))) (by decide) (List.mem_of_getElem? (i := 1) rfl) (fun _ h => h) dX7_faultPlace_6 ?_
    refine s_conv (y := (nI n)) hx ?_
    refine lv_icmp_ge (tgt := 81) S.1 S.2.1 dX7_faultPlace_9 (by decide) (fun _ => ?_) (fun h => absurd (nI_le (by omega) (by omega)) h)
    refine lv_iload_n S.1 S.2.1 dX7_faultPlace_81 rfl (lv_at hl 0 rfl) ?_
    refine lv_if_ne (tgt := 89) S.1 S.2.1 dX7_faultPlace_82 (by decide) (fun c_2 => ?_) (fun c_2 => ?_)
    · refine lv_aload_n S.1 S.2.1 dX7_faultPlace_89 rfl (lv_at hl 2 rfl) ?_
      refine s_get S hX G (i := i) (kd := 7) (a := x) (v := .int (x 1)) (C := RX7) (T := TX7) (N := 2) 1 hi e_x rfl rfl (by decide) rfl (fun _ h => (List.mem_cons_of_mem _ (List.mem_append_right _ h))) (by decide) (List.mem_of_getElem? (i := 1) rfl) (fun _ h => h) dX7_faultPlace_90 ?_
      refine s_conv (y := (nI n)) hx ?_
      refine s_iret (x := (nI n)) S G hr hlk dX7_faultPlace_93 ?_
      exact ⟨(congrArg (fun q : Int32 => some (Value.int q)) (show (nI n) = (fpG g n n 0 0) by rw [← hs]; simp only [fpG]; first | rw [if_pos c_2] | rw [if_neg c_2])), rfl, rfl⟩
    · refine lv_iconst (v := (-1 : Int32)) S.1 S.2.1 dX7_faultPlace_85 (by decide) ?_
      refine lv_goto (tgt := 93) S.1 S.2.1 dX7_faultPlace_86 (by decide) ?_
      refine s_iret (x := (-1 : Int32)) S G hr hlk dX7_faultPlace_93 ?_
      exact ⟨(congrArg (fun q : Int32 => some (Value.int q)) (show (-1 : Int32) = (fpG g n n 0 0) by rw [← hs]; simp only [fpG]; first | rw [if_pos c_2] | rw [if_neg c_2])), rfl, rfl⟩
  · have hlt : k < n := by omega
    refine lv_iload_n S.1 S.2.1 dX7_faultPlace_4 rfl (lv_at hl 1 rfl) ?_
    refine lv_aload_n S.1 S.2.1 dX7_faultPlace_5 rfl (lv_at hl 2 rfl) ?_
    refine s_get S hX G (i := i) (kd := 7) (a := x) (v := .int (x 1)) (C := RX7) (T := TX7) (N := 2) 1 hi e_x rfl rfl (by decide) rfl (fun _ h => (List.mem_cons_of_mem _ (List.mem_append_right _ h))) (by decide) (List.mem_of_getElem? (i := 1) rfl) (fun _ h => h) dX7_faultPlace_6 ?_
    refine s_conv (y := (nI n)) hx ?_
    refine lv_icmp_ge (tgt := 81) S.1 S.2.1 dX7_faultPlace_9 (by decide) (fun h => absurd h (nI_ge hlt (by omega))) (fun _ => ?_)
    refine lv_aload_n S.1 S.2.1 dX7_faultPlace_12 rfl (lv_at hl 2 rfl) ?_
    refine lv_iload_n S.1 S.2.1 dX7_faultPlace_13 rfl (lv_at hl 1 rfl) ?_
    refine s_callV (C := RX7) (As := [.int (nI k)]) (rest := []) (i := i) (kd := 7) S hX G (k_X7_signAt l E i k x g n hi hi_1 e_x e_g (by first | assumption | decide | omega) (by first | assumption | decide | omega) (by first | assumption | decide | omega) (hg k hlt)) (cwV (bytes := cX7_signAt) (maxL := 2) (ret := (some .char)) 1 S.2.2.2.2 gX7_faultPlace_X7_signAt rfl rfl rfl (by decide +kernel) ⟨Nat.le_of_ble_eq_true rfl, Nat.le_of_ble_eq_true rfl⟩) hi rfl rfl rfl (by decide) rfl hl.1 rfl (Nat.le_of_ble_eq_true rfl) ⟨Nat.zero_le _, Nat.zero_le _⟩ dX7_faultPlace_14 (fun v I1 L1 H locs hR G => ?_)
    obtain ⟨hv, hI, hL⟩ := hR
    subst hv
    have G : GS E I L sg H locs := G.same hI hL
    refine W.eq (g2 := F0 mg 17 ls [.int (g k)]) rfl ?_
    refine lv_topi (fun y_3 ey_3 => ?_)
    refine lv_istore_n (lv' := [(3, .int y_3), (1, .int xx), (2, .int (nI k)), (0, .ref (E.2.2.2 i))]) S.1 S.2.1 dX7_faultPlace_17 rfl hl (by decide) rfl (fun ls hl => ?_)
    refine lv_iload_n S.1 S.2.1 dX7_faultPlace_18 rfl (lv_at hl 0 rfl) ?_
    refine lv_bipush (v := (59 : Int32)) S.1 S.2.1 dX7_faultPlace_19 (by decide) ?_
    refine lv_icmp_ne (tgt := 33) S.1 S.2.1 dX7_faultPlace_21 (by decide) (fun c_4 => ?_) (fun c_4 => ?_)
    · refine lv_iconst (v := (0 : Int32)) S.1 S.2.1 dX7_faultPlace_33 (by decide) ?_
      refine lv_istore (lv' := [(4, .int (0 : Int32)), (3, .int y_3), (1, .int xx), (2, .int (nI k)), (0, .ref (E.2.2.2 i))]) S.1 S.2.1 dX7_faultPlace_34 hl (by decide) rfl (fun ls hl => ?_)
      refine lv_iload S.1 S.2.1 dX7_faultPlace_36 (lv_at hl 0 rfl) ?_
      refine lv_if_eq (tgt := 62) S.1 S.2.1 dX7_faultPlace_38 (by decide) (fun _ => ?_) (fun h => absurd (by decide) h)
      refine lv_iload_n S.1 S.2.1 dX7_faultPlace_62 rfl (lv_at hl 2 rfl) ?_
      refine lv_iload_n S.1 S.2.1 dX7_faultPlace_63 rfl (lv_at hl 1 rfl) ?_
      refine s_callS (As := [.int xx, .int y_3]) (rest := []) S hX G (k_X7_expectedBehind l E xx y_3) (va_cwS (bytes := cX7_expectedBehind) (maxL := 2) (ret := (some .int)) 2 S.2.2.2.2 gX7_faultPlace_X7_expectedBehind rfl rfl rfl (by decide +kernel) ⟨Nat.le_of_ble_eq_true rfl, Nat.le_of_ble_eq_true rfl⟩) rfl hl.1 rfl (Nat.le_of_ble_eq_true rfl) ⟨Nat.zero_le _, Nat.zero_le _⟩ dX7_faultPlace_64 (fun v I1 L1 H locs hR G => ?_)
      obtain ⟨hv, hI, hL⟩ := hR
      subst hv
      have G : GS E I L sg H locs := G.same hI hL
      refine W.eq (g2 := F0 mg 67 ls [.int (ebF xx y_3)]) rfl ?_
      refine lv_topi (fun y_5 ey_5 => ?_)
      refine lv_istore_n (lv' := [(1, .int y_5), (4, .int (0 : Int32)), (3, .int y_3), (2, .int (nI k)), (0, .ref (E.2.2.2 i))]) S.1 S.2.1 dX7_faultPlace_67 rfl hl (by decide) rfl (fun ls hl => ?_)
      refine lv_iload_n S.1 S.2.1 dX7_faultPlace_68 rfl (lv_at hl 0 rfl) ?_
      refine lv_iconst (v := (-1 : Int32)) S.1 S.2.1 dX7_faultPlace_69 (by decide) ?_
      refine lv_icmp_ne (tgt := 75) S.1 S.2.1 dX7_faultPlace_70 (by decide) (fun c_6 => ?_) (fun c_6 => ?_)
      · refine lv_iinc (v := (nI (k + 1))) (lv' := [(2, .int (nI (k + 1))), (1, .int y_5), (4, .int (0 : Int32)), (3, .int y_3), (0, .ref (E.2.2.2 i))]) S.1 S.2.1 dX7_faultPlace_75 hl (k := 3) rfl (nI_1 k) (by decide) rfl (fun ls hl => ?_)
        refine lv_goto (tgt := 4) S.1 S.2.1 dX7_faultPlace_78 (by decide) ?_
        exact ih_1 _ (show r < nn by omega) (r, (k + 1), (y_5)) _ _ _ _ _ ⟨rfl, (show r + (k + 1) = n by omega), (by subst ey_5 ey_3; rw [← hs]; simp only [fpG]; rw [if_neg (fun q => c_4 q.1.1), if_neg c_6]), rfl, rfl⟩ G (lv_sub hl [1, 0, 4] rfl)
      · refine lv_iload_n S.1 S.2.1 dX7_faultPlace_73 rfl (lv_at hl 3 rfl) ?_
        refine s_iret (x := (nI k)) S G hr hlk dX7_faultPlace_74 ?_
        exact ⟨(congrArg (fun q : Int32 => some (Value.int q)) (show (nI k) = (fpG g n n 0 0) by subst ey_5 ey_3; rw [← hs]; simp only [fpG]; rw [if_neg (fun q => c_4 q.1.1), if_pos c_6])), rfl, rfl⟩
    · refine lv_iload_n S.1 S.2.1 dX7_faultPlace_24 rfl (lv_at hl 1 rfl) ?_
      refine lv_iconst (v := (5 : Int32)) S.1 S.2.1 dX7_faultPlace_25 (by decide) ?_
      refine lv_icmp_le (tgt := 33) S.1 S.2.1 dX7_faultPlace_26 (by decide) (fun c_7 => ?_) (fun c_7 => ?_)
      · refine lv_iconst (v := (0 : Int32)) S.1 S.2.1 dX7_faultPlace_33 (by decide) ?_
        refine lv_istore (lv' := [(4, .int (0 : Int32)), (3, .int y_3), (1, .int xx), (2, .int (nI k)), (0, .ref (E.2.2.2 i))]) S.1 S.2.1 dX7_faultPlace_34 hl (by decide) rfl (fun ls hl => ?_)
        refine lv_iload S.1 S.2.1 dX7_faultPlace_36 (lv_at hl 0 rfl) ?_
        refine lv_if_eq (tgt := 62) S.1 S.2.1 dX7_faultPlace_38 (by decide) (fun _ => ?_) (fun h => absurd (by decide) h)
        refine lv_iload_n S.1 S.2.1 dX7_faultPlace_62 rfl (lv_at hl 2 rfl) ?_
        refine lv_iload_n S.1 S.2.1 dX7_faultPlace_63 rfl (lv_at hl 1 rfl) ?_
        refine s_callS (As := [.int xx, .int y_3]) (rest := []) S hX G (k_X7_expectedBehind l E xx y_3) (va_cwS (bytes := cX7_expectedBehind) (maxL := 2) (ret := (some .int)) 2 S.2.2.2.2 gX7_faultPlace_X7_expectedBehind rfl rfl rfl (by decide +kernel) ⟨Nat.le_of_ble_eq_true rfl, Nat.le_of_ble_eq_true rfl⟩) rfl hl.1 rfl (Nat.le_of_ble_eq_true rfl) ⟨Nat.zero_le _, Nat.zero_le _⟩ dX7_faultPlace_64 (fun v I1 L1 H locs hR G => ?_)
        obtain ⟨hv, hI, hL⟩ := hR
        subst hv
        have G : GS E I L sg H locs := G.same hI hL
        refine W.eq (g2 := F0 mg 67 ls [.int (ebF xx y_3)]) rfl ?_
        refine lv_topi (fun y_8 ey_8 => ?_)
        refine lv_istore_n (lv' := [(1, .int y_8), (4, .int (0 : Int32)), (3, .int y_3), (2, .int (nI k)), (0, .ref (E.2.2.2 i))]) S.1 S.2.1 dX7_faultPlace_67 rfl hl (by decide) rfl (fun ls hl => ?_)
        refine lv_iload_n S.1 S.2.1 dX7_faultPlace_68 rfl (lv_at hl 0 rfl) ?_
        refine lv_iconst (v := (-1 : Int32)) S.1 S.2.1 dX7_faultPlace_69 (by decide) ?_
        refine lv_icmp_ne (tgt := 75) S.1 S.2.1 dX7_faultPlace_70 (by decide) (fun c_9 => ?_) (fun c_9 => ?_)
        · refine lv_iinc (v := (nI (k + 1))) (lv' := [(2, .int (nI (k + 1))), (1, .int y_8), (4, .int (0 : Int32)), (3, .int y_3), (0, .ref (E.2.2.2 i))]) S.1 S.2.1 dX7_faultPlace_75 hl (k := 3) rfl (nI_1 k) (by decide) rfl (fun ls hl => ?_)
          refine lv_goto (tgt := 4) S.1 S.2.1 dX7_faultPlace_78 (by decide) ?_
          exact ih_1 _ (show r < nn by omega) (r, (k + 1), (y_8)) _ _ _ _ _ ⟨rfl, (show r + (k + 1) = n by omega), (by subst ey_8 ey_3; rw [← hs]; simp only [fpG]; rw [if_neg (fun q => q.1.2 c_7), if_neg c_9]), rfl, rfl⟩ G (lv_sub hl [1, 0, 4] rfl)
        · refine lv_iload_n S.1 S.2.1 dX7_faultPlace_73 rfl (lv_at hl 3 rfl) ?_
          refine s_iret (x := (nI k)) S G hr hlk dX7_faultPlace_74 ?_
          exact ⟨(congrArg (fun q : Int32 => some (Value.int q)) (show (nI k) = (fpG g n n 0 0) by subst ey_8 ey_3; rw [← hs]; simp only [fpG]; rw [if_neg (fun q => q.1.2 c_7), if_pos c_9])), rfl, rfl⟩
      · refine lv_iconst (v := (1 : Int32)) S.1 S.2.1 dX7_faultPlace_29 (by decide) ?_
        refine lv_goto (tgt := 34) S.1 S.2.1 dX7_faultPlace_30 (by decide) ?_
        refine lv_istore (lv' := [(4, .int (1 : Int32)), (3, .int y_3), (1, .int xx), (2, .int (nI k)), (0, .ref (E.2.2.2 i))]) S.1 S.2.1 dX7_faultPlace_34 hl (by decide) rfl (fun ls hl => ?_)
        refine lv_iload S.1 S.2.1 dX7_faultPlace_36 (lv_at hl 0 rfl) ?_
        refine lv_if_eq (tgt := 62) S.1 S.2.1 dX7_faultPlace_38 (by decide) (fun h => absurd h (by decide)) (fun _ => ?_)
        refine lv_aload_n S.1 S.2.1 dX7_faultPlace_41 rfl (lv_at hl 4 rfl) ?_
        refine lv_iload_n S.1 S.2.1 dX7_faultPlace_42 rfl (lv_at hl 3 rfl) ?_
        refine s_callV (C := RX7) (As := [.int (nI k)]) (rest := []) (i := i) (kd := 7) S hX G (k_X7_slotsBefore l E i k x g n hi hi_1 e_x e_g (by first | assumption | decide | omega) (by first | assumption | decide | omega) (by first | assumption | decide | omega) (by first | assumption | decide | omega)) (cwV (bytes := cX7_slotsBefore) (maxL := 5) (ret := (some .int)) 1 S.2.2.2.2 gX7_faultPlace_X7_slotsBefore rfl rfl rfl (by decide +kernel) ⟨Nat.le_of_ble_eq_true rfl, Nat.le_of_ble_eq_true rfl⟩) hi rfl rfl rfl (by decide) rfl hl.1 rfl (Nat.le_of_ble_eq_true rfl) ⟨Nat.zero_le _, Nat.zero_le _⟩ dX7_faultPlace_43 (fun v I1 L1 H locs hR G => ?_)
        obtain ⟨hv, hI, hL⟩ := hR
        subst hv
        have G : GS E I L sg H locs := G.same hI hL
        refine W.eq (g2 := F0 mg 46 ls [.int (sbL g k 0 1)]) rfl ?_
        refine lv_topi (fun y_10 ey_10 => ?_)
        refine lv_iconst (v := (1 : Int32)) S.1 S.2.1 dX7_faultPlace_46 (by decide) ?_
        refine lv_sipush (v := (500 : Int32)) S.1 S.2.1 dX7_faultPlace_47 (by decide) ?_
        refine s_callSN (As := [.int y_10, .int (1 : Int32), .int (500 : Int32)]) (rest := []) S hX G (k_X8_isWithin l E y_10 (1 : Int32) (500 : Int32)) (va_cnB (bytes := cX8_isWithin) (maxL := 3) (ret := (some .boolean)) 3 S.2.2.2.2 gX7_faultPlace_X8_isWithin_n19 rfl rfl rfl (hX.2.2.1.2 _ (List.mem_of_getElem? (i := 4) rfl)) (S.2.2.2.2 _ (List.mem_of_getElem? (i := 9) rfl)) (by decide +kernel) ⟨Nat.le_of_ble_eq_true rfl, Nat.le_of_ble_eq_true rfl⟩) (List.mem_of_getElem? (i := 8) rfl) rfl hl.1 rfl (Nat.le_of_ble_eq_true rfl) ⟨Nat.zero_le _, Nat.zero_le _⟩ dX7_faultPlace_50 (fun v I1 L1 H locs hR G => ?_)
        obtain ⟨hv, hI, hL⟩ := hR
        subst hv
        have G : GS E I L sg H locs := G.same hI hL
        refine W.eq (g2 := F0 mg 53 ls [.int (if ¬ y_10 < (1 : Int32) ∧ ¬ (500 : Int32) < y_10 then 1 else 0)]) rfl ?_
        refine s_if_ne_b (P := ¬ y_10 < (1 : Int32) ∧ ¬ (500 : Int32) < y_10) (tgt := 62) S dX7_faultPlace_53 (by decide) (fun c_11 => ?_) (fun c_11 => ?_)
        · refine lv_iload_n S.1 S.2.1 dX7_faultPlace_62 rfl (lv_at hl 2 rfl) ?_
          refine lv_iload_n S.1 S.2.1 dX7_faultPlace_63 rfl (lv_at hl 1 rfl) ?_
          refine s_callS (As := [.int xx, .int y_3]) (rest := []) S hX G (k_X7_expectedBehind l E xx y_3) (va_cwS (bytes := cX7_expectedBehind) (maxL := 2) (ret := (some .int)) 2 S.2.2.2.2 gX7_faultPlace_X7_expectedBehind rfl rfl rfl (by decide +kernel) ⟨Nat.le_of_ble_eq_true rfl, Nat.le_of_ble_eq_true rfl⟩) rfl hl.1 rfl (Nat.le_of_ble_eq_true rfl) ⟨Nat.zero_le _, Nat.zero_le _⟩ dX7_faultPlace_64 (fun v I1 L1 H locs hR G => ?_)
          obtain ⟨hv, hI, hL⟩ := hR
          subst hv
          have G : GS E I L sg H locs := G.same hI hL
          refine W.eq (g2 := F0 mg 67 ls [.int (ebF xx y_3)]) rfl ?_
          refine lv_topi (fun y_12 ey_12 => ?_)
          refine lv_istore_n (lv' := [(1, .int y_12), (4, .int (1 : Int32)), (3, .int y_3), (2, .int (nI k)), (0, .ref (E.2.2.2 i))]) S.1 S.2.1 dX7_faultPlace_67 rfl hl (by decide) rfl (fun ls hl => ?_)
          refine lv_iload_n S.1 S.2.1 dX7_faultPlace_68 rfl (lv_at hl 0 rfl) ?_
          refine lv_iconst (v := (-1 : Int32)) S.1 S.2.1 dX7_faultPlace_69 (by decide) ?_
          refine lv_icmp_ne (tgt := 75) S.1 S.2.1 dX7_faultPlace_70 (by decide) (fun c_13 => ?_) (fun c_13 => ?_)
          · refine lv_iinc (v := (nI (k + 1))) (lv' := [(2, .int (nI (k + 1))), (1, .int y_12), (4, .int (1 : Int32)), (3, .int y_3), (0, .ref (E.2.2.2 i))]) S.1 S.2.1 dX7_faultPlace_75 hl (k := 3) rfl (nI_1 k) (by decide) rfl (fun ls hl => ?_)
            refine lv_goto (tgt := 4) S.1 S.2.1 dX7_faultPlace_78 (by decide) ?_
            exact ih_1 _ (show r < nn by omega) (r, (k + 1), (y_12)) _ _ _ _ _ ⟨rfl, (show r + (k + 1) = n by omega), (by subst ey_12 ey_10 ey_3; rw [← hs]; simp only [fpG]; rw [if_neg (fun q => q.2 c_11), if_neg c_13]), rfl, rfl⟩ G (lv_sub hl [1, 0, 4] rfl)
          · refine lv_iload_n S.1 S.2.1 dX7_faultPlace_73 rfl (lv_at hl 3 rfl) ?_
            refine s_iret (x := (nI k)) S G hr hlk dX7_faultPlace_74 ?_
            exact ⟨(congrArg (fun q : Int32 => some (Value.int q)) (show (nI k) = (fpG g n n 0 0) by subst ey_12 ey_10 ey_3; rw [← hs]; simp only [fpG]; rw [if_neg (fun q => q.2 c_11), if_pos c_13])), rfl, rfl⟩
        · refine lv_iload_n S.1 S.2.1 dX7_faultPlace_56 rfl (lv_at hl 3 rfl) ?_
          refine lv_iload_n S.1 S.2.1 dX7_faultPlace_57 rfl (lv_at hl 2 rfl) ?_
          refine lv_iconst (v := (5 : Int32)) S.1 S.2.1 dX7_faultPlace_58 (by decide) ?_
          refine s_isub (v := (xx - (5 : Int32))) S dX7_faultPlace_59 rfl ?_
          refine s_isub (v := ((nI k) - (xx - (5 : Int32)))) S dX7_faultPlace_60 rfl ?_
          refine s_iret (x := ((nI k) - (xx - (5 : Int32)))) S G hr hlk dX7_faultPlace_61 ?_
          exact ⟨(congrArg (fun q : Int32 => some (Value.int q)) (show ((nI k) - (xx - (5 : Int32))) = (fpG g n n 0 0) by subst ey_10 ey_3; rw [← hs]; simp only [fpG]; rw [if_pos (And.intro (And.intro c_4 c_7) c_11)])), rfl, rfl⟩
