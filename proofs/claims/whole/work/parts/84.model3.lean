def mdrF (d : Nat → Int32) (l : Nat) : Int32 := if d (l + 1) = 0 then 9 else if d (l + 9) = 0 then 9 else if d (l + 1) = d (l + 9) then 0 else if d (l + 1) = 1 then 1 else -1
def clampM (c : Int32) : Int32 := if ¬ c ≤ 1000000 then 1000000 else if ¬ (-1000000 : Int32) ≤ c then -1000000 else c
def runM (r dr : Int32) : Int32 := if dr = 1 ∨ dr = -1 then r + 1 else 0
def mcurF (d : Nat → Int32) (L : Nat) (dr : Int32) : Int32 := clampM (if dr = 9 then towF (d (L + 4)) (d L + d (L + 1)) else towF (d (L + 4) + dr * d L) (d (L + 1)))
def flF (d : Nat → Int32) (l L : Nat) : Nat → Int32 := upd (upd (upd d (L + 9) (mdrF d l)) (L + 10) (runM (d (L + 10)) (mdrF d l))) (L + 4) (mcurF d L (mdrF d l))
def clampL (h : Int64) : Int64 := if ¬ 0 ≤ h then 0 else if h ≤ 2000000000 then h else 2000000000
def htF (d : Nat → Int32) (L : Nat) : Nat → Int32 := upd d (L + 5) (Int64.toInt32 (clampL (Int32.toInt64 (d (L + 5)) + Int32.toInt64 (absM (d (L + 4))) * Int32.toInt64 (absM (d (L + 4))) / 1000 - Int32.toInt64 (d 6))))
def lkF (d : Nat → Int32) (L : Nat) : Nat → Int32 := if d (L + 6) = 1 ∧ d (L + 8) = 0 then upd d (L + 7) (if ¬ absM (d (L + 4)) < d (L + 2) then 1 else if ¬ d (L + 2) - d (L + 3) < absM (d (L + 4)) then 0 else d (L + 7)) else d
def ltF (d : Nat → Int32) (L f : Nat) (P : Prop) [Decidable P] : Nat → Int32 := if P then upd (upd (upd (upd d (L + 12 + 3 * f) (d 0)) (L + 13 + 3 * f) (d (L + 4))) (L + 14 + 3 * f) (d (L + 21))) (L + 21) (d (L + 21) + 1) else d
theorem ltF_p {d : Nat → Int32} {L f : Nat} {P : Prop} [Decidable P] (h : P) : ltF d L f P = upd (upd (upd (upd d (L + 12 + 3 * f) (d 0)) (L + 13 + 3 * f) (d (L + 4))) (L + 14 + 3 * f) (d (L + 21))) (L + 21) (d (L + 21) + 1) := if_pos h
theorem ltF_n {d : Nat → Int32} {L f : Nat} {P : Prop} [Decidable P] (h : ¬ P) : ltF d L f P = d := if_neg h
set_option maxHeartbeats 4000000 in
set_option maxRecDepth 100000 in
theorem k_X9_flows_0 (l : Launch) (E : Ev) {I : SI} {L : SL} (d : Nat → Int32) (e_d : I (162) = d) : CS l yX9_flows wsX9_flows ({ frames := 1, cells := 0, slots := 0, locals := 21 }) E [.ref (E.2.2.2 161), .int (0 : Int32)] I L (fun vv I' L' => vv = none ∧ I' = (up I (162) (flF d 8 40)) ∧ L' = L) := by
  refine CS.of (cc := cX9_flows) (maxL := 7) (ret := none) (by decide) rfl (Nat.le_of_ble_eq_true rfl) ?_
  intro pg en sg mg below meth cg ls S hr hlk hX G hl
  have S : CallFix pg mg cg cX9_flows 7 sg _ wsX9_flows RX9 := S
  have hl : lv_has ls 7 [(0, .ref (E.2.2.2 161)), (1, .int (0 : Int32))] := hl
  refine lv_iload_n S.1 S.2.1 dX9_flows_0 rfl (lv_at hl 1 rfl) ?_
  refine s_callS (As := [.int (0 : Int32)]) (rest := []) S hX G (k_X9_loadAt_0 l E) (va_cwS (bytes := cX9_loadAt) (maxL := 1) (ret := (some .int)) 1 S.2.2.2.2 gX9_flows_X9_loadAt rfl rfl rfl (by decide +kernel) ⟨Nat.le_of_ble_eq_true rfl, Nat.le_of_ble_eq_true rfl⟩) rfl hl.1 rfl (Nat.le_of_ble_eq_true rfl) ⟨Nat.zero_le _, Nat.zero_le _⟩ dX9_flows_1 (fun v I1 L1 H locs hR G => ?_)
  obtain ⟨hv, hI, hL⟩ := hR
  subst hv
  have G : GS E I L sg H locs := G.same hI hL
  refine W.eq (g2 := F0 mg 4 ls [.int (40 : Int32)]) rfl ?_
  refine lv_istore_n (lv' := [(2, .int (40 : Int32)), (0, .ref (E.2.2.2 161)), (1, .int (0 : Int32))]) S.1 S.2.1 dX9_flows_4 rfl hl (by decide) rfl (fun ls hl => ?_)
  refine lv_aload_n S.1 S.2.1 dX9_flows_5 rfl (lv_at hl 1 rfl) ?_
  refine s_get S hX G (i := 161) (kd := 9) (a := (I 161)) (v := .ref (E.2.2.2 162)) (C := RX9) (T := TX9) (N := 13) 0 (rfl : sh 161 = 9) rfl rfl rfl (by decide) rfl (fun _ h => (List.mem_cons_of_mem _ (List.mem_append_right _ h))) (by decide) (List.mem_of_getElem? (i := 1) rfl) (fun _ h => h) dX9_flows_6 ?_
  refine lv_iconst (v := (2 : Int32)) S.1 S.2.1 dX9_flows_9 (by decide) ?_
  refine lv_iload_n S.1 S.2.1 dX9_flows_10 rfl (lv_at hl 2 rfl) ?_
  refine s_imul (v := (0 : Int32)) S dX9_flows_11 (by decide) ?_
  refine s_callS (As := [.int (0 : Int32)]) (rest := [.ref (E.2.2.2 162)]) S hX G (k_X9_legAt_0 l E) (va_cwS (bytes := cX9_legAt) (maxL := 1) (ret := (some .int)) 1 S.2.2.2.2 gX9_flows_X9_legAt rfl rfl rfl (by decide +kernel) ⟨Nat.le_of_ble_eq_true rfl, Nat.le_of_ble_eq_true rfl⟩) rfl hl.1 rfl (Nat.le_of_ble_eq_true rfl) ⟨Nat.zero_le _, Nat.zero_le _⟩ dX9_flows_12 (fun v I1 L1 H locs hR G => ?_)
  obtain ⟨hv, hI, hL⟩ := hR
  subst hv
  have G : GS E I L sg H locs := G.same hI hL
  refine W.eq (g2 := F0 mg 15 ls [.int (8 : Int32), .ref (E.2.2.2 162)]) rfl ?_
  refine lv_iconst (v := (1 : Int32)) S.1 S.2.1 dX9_flows_15 (by decide) ?_
  refine s_iadd (v := (9 : Int32)) S dX9_flows_16 (by decide) ?_
  refine s_iald S hX G (i := 162) (kd := 284) (n := 270) (a := d) (x := (d 9)) (rfl : sh 162 = 284) e_d rfl (by decide) (by unfold vp_in; decide) (congrArg d (by decide)) dX9_flows_17 ?_
  refine lv_istore_n (lv' := [(3, .int (d 9)), (2, .int (40 : Int32)), (0, .ref (E.2.2.2 161)), (1, .int (0 : Int32))]) S.1 S.2.1 dX9_flows_18 rfl hl (by decide) rfl (fun ls hl => ?_)
  refine lv_aload_n S.1 S.2.1 dX9_flows_19 rfl (lv_at hl 2 rfl) ?_
  refine s_get S hX G (i := 161) (kd := 9) (a := (I 161)) (v := .ref (E.2.2.2 162)) (C := RX9) (T := TX9) (N := 13) 0 (rfl : sh 161 = 9) rfl rfl rfl (by decide) rfl (fun _ h => (List.mem_cons_of_mem _ (List.mem_append_right _ h))) (by decide) (List.mem_of_getElem? (i := 1) rfl) (fun _ h => h) dX9_flows_20 ?_
  refine lv_iconst (v := (2 : Int32)) S.1 S.2.1 dX9_flows_23 (by decide) ?_
  refine lv_iload_n S.1 S.2.1 dX9_flows_24 rfl (lv_at hl 3 rfl) ?_
  refine s_imul (v := (0 : Int32)) S dX9_flows_25 (by decide) ?_
  refine lv_iconst (v := (1 : Int32)) S.1 S.2.1 dX9_flows_26 (by decide) ?_
  refine s_iadd (v := (1 : Int32)) S dX9_flows_27 (by decide) ?_
  refine s_callS (As := [.int (1 : Int32)]) (rest := [.ref (E.2.2.2 162)]) S hX G (k_X9_legAt_1 l E) (va_cwS (bytes := cX9_legAt) (maxL := 1) (ret := (some .int)) 1 S.2.2.2.2 gX9_flows_X9_legAt rfl rfl rfl (by decide +kernel) ⟨Nat.le_of_ble_eq_true rfl, Nat.le_of_ble_eq_true rfl⟩) rfl hl.1 rfl (Nat.le_of_ble_eq_true rfl) ⟨Nat.zero_le _, Nat.zero_le _⟩ dX9_flows_28 (fun v I1 L1 H locs hR G => ?_)
  obtain ⟨hv, hI, hL⟩ := hR
  subst hv
  have G : GS E I L sg H locs := G.same hI hL
  refine W.eq (g2 := F0 mg 31 ls [.int (16 : Int32), .ref (E.2.2.2 162)]) rfl ?_
  refine lv_iconst (v := (1 : Int32)) S.1 S.2.1 dX9_flows_31 (by decide) ?_
  refine s_iadd (v := (17 : Int32)) S dX9_flows_32 (by decide) ?_
  refine s_iald S hX G (i := 162) (kd := 284) (n := 270) (a := d) (x := (d 17)) (rfl : sh 162 = 284) e_d rfl (by decide) (by unfold vp_in; decide) (congrArg d (by decide)) dX9_flows_33 ?_
  refine lv_istore (lv' := [(4, .int (d 17)), (3, .int (d 9)), (2, .int (40 : Int32)), (0, .ref (E.2.2.2 161)), (1, .int (0 : Int32))]) S.1 S.2.1 dX9_flows_34 hl (by decide) rfl (fun ls hl => ?_)
  refine s_cut (α := Int32) (nL := 7) (E := E) (fun x I' L' => x = (mdrF d 8) ∧ I' = I ∧ L' = L) (fun x => [(4, .int (d 17)), (3, .int (d 9)), (2, .int (40 : Int32)), (0, .ref (E.2.2.2 161)), (1, .int (0 : Int32))]) 70 (fun x => [.int x]) (fun kJ_1 => ?_) (fun x I1 L1 H locs ls hP G hl => ?_)
  · refine lv_iload_n S.1 S.2.1 dX9_flows_36 rfl (lv_at hl 1 rfl) ?_
    refine lv_if_eq (tgt := 45) S.1 S.2.1 dX9_flows_37 (by decide) (fun c_2 => ?_) (fun c_2 => ?_)
    · refine lv_bipush (v := (9 : Int32)) S.1 S.2.1 dX9_flows_45 (by decide) ?_
      refine lv_goto (tgt := 70) S.1 S.2.1 dX9_flows_47 (by decide) ?_
      exact kJ_1 (9 : Int32) _ _ _ _ _ ⟨(show (9 : Int32) = (mdrF d 8) by first | (simp [mdrF, c_2]; done) | (clear S hX G hl; grind [mdrF])), rfl, rfl⟩ G (lv_sub hl [0, 1, 2, 3, 4] rfl)
    · refine lv_iload S.1 S.2.1 dX9_flows_40 (lv_at hl 0 rfl) ?_
      refine lv_if_ne (tgt := 50) S.1 S.2.1 dX9_flows_42 (by decide) (fun c_3 => ?_) (fun c_3 => ?_)
      · refine lv_iload_n S.1 S.2.1 dX9_flows_50 rfl (lv_at hl 1 rfl) ?_
        refine lv_iload S.1 S.2.1 dX9_flows_51 (lv_at hl 0 rfl) ?_
        refine lv_icmp_ne (tgt := 60) S.1 S.2.1 dX9_flows_53 (by decide) (fun c_4 => ?_) (fun c_4 => ?_)
        · refine lv_iload_n S.1 S.2.1 dX9_flows_60 rfl (lv_at hl 1 rfl) ?_
          refine lv_iconst (v := (1 : Int32)) S.1 S.2.1 dX9_flows_61 (by decide) ?_
          refine lv_icmp_ne (tgt := 69) S.1 S.2.1 dX9_flows_62 (by decide) (fun c_5 => ?_) (fun c_5 => ?_)
          · refine lv_iconst (v := (-1 : Int32)) S.1 S.2.1 dX9_flows_69 (by decide) ?_
            exact kJ_1 (-1 : Int32) _ _ _ _ _ ⟨(show (-1 : Int32) = (mdrF d 8) by first | (simp [mdrF, c_2, c_3, c_4, c_5]; done) | (clear S hX G hl; grind [mdrF])), rfl, rfl⟩ G (lv_sub hl [0, 1, 2, 3, 4] rfl)
          · refine lv_iconst (v := (1 : Int32)) S.1 S.2.1 dX9_flows_65 (by decide) ?_
            refine lv_goto (tgt := 70) S.1 S.2.1 dX9_flows_66 (by decide) ?_
            exact kJ_1 (1 : Int32) _ _ _ _ _ ⟨(show (1 : Int32) = (mdrF d 8) by first | (simp [mdrF, c_2, c_3, c_4, c_5]; done) | (clear S hX G hl; grind [mdrF])), rfl, rfl⟩ G (lv_sub hl [0, 1, 2, 3, 4] rfl)
        · refine lv_iconst (v := (0 : Int32)) S.1 S.2.1 dX9_flows_56 (by decide) ?_
          refine lv_goto (tgt := 70) S.1 S.2.1 dX9_flows_57 (by decide) ?_
          exact kJ_1 (0 : Int32) _ _ _ _ _ ⟨(show (0 : Int32) = (mdrF d 8) by first | (simp [mdrF, c_2, c_3, c_4]; done) | (clear S hX G hl; grind [mdrF])), rfl, rfl⟩ G (lv_sub hl [0, 1, 2, 3, 4] rfl)
      · refine lv_bipush (v := (9 : Int32)) S.1 S.2.1 dX9_flows_45 (by decide) ?_
        refine lv_goto (tgt := 70) S.1 S.2.1 dX9_flows_47 (by decide) ?_
        exact kJ_1 (9 : Int32) _ _ _ _ _ ⟨(show (9 : Int32) = (mdrF d 8) by first | (simp [mdrF, c_2, c_3]; done) | (clear S hX G hl; grind [mdrF])), rfl, rfl⟩ G (lv_sub hl [0, 1, 2, 3, 4] rfl)
  · obtain ⟨h0, hI, hL⟩ := hP
    have h0 : x = (mdrF d 8) := h0
    have hl : lv_has ls 7 [(4, .int (d 17)), (3, .int (d 9)), (2, .int (40 : Int32)), (0, .ref (E.2.2.2 161)), (1, .int (0 : Int32))] := hl
    obtain ⟨m_6, rfl⟩ : ∃ z, z = x := ⟨_, rfl⟩
    have em_6 : m_6 = (mdrF d 8) := h0
    have G : GS E I L sg H locs := G.same hI hL
    refine W.eq (g2 := F0 mg 70 ls [.int m_6]) rfl ?_
    refine lv_istore (lv' := [(5, .int m_6), (4, .int (d 17)), (3, .int (d 9)), (2, .int (40 : Int32)), (0, .ref (E.2.2.2 161)), (1, .int (0 : Int32))]) S.1 S.2.1 dX9_flows_70 hl (by decide) rfl (fun ls hl => ?_)
    refine lv_aload_n S.1 S.2.1 dX9_flows_72 rfl (lv_at hl 4 rfl) ?_
    refine s_get S hX G (i := 161) (kd := 9) (a := (I 161)) (v := .ref (E.2.2.2 162)) (C := RX9) (T := TX9) (N := 13) 0 (rfl : sh 161 = 9) rfl rfl rfl (by decide) rfl (fun _ h => (List.mem_cons_of_mem _ (List.mem_append_right _ h))) (by decide) (List.mem_of_getElem? (i := 1) rfl) (fun _ h => h) dX9_flows_73 ?_
    refine lv_iload_n S.1 S.2.1 dX9_flows_76 rfl (lv_at hl 3 rfl) ?_
    refine lv_bipush (v := (9 : Int32)) S.1 S.2.1 dX9_flows_77 (by decide) ?_
    refine s_iadd (v := (49 : Int32)) S dX9_flows_79 (by decide) ?_
    refine lv_iload S.1 S.2.1 dX9_flows_80 (lv_at hl 0 rfl) ?_
    refine s_iast S hX G (i := 162) (kd := 284) (n := 270) (jn := 49) (a := d) (I' := (up I 162 (upd d 49 m_6))) (rfl : sh 162 = 284) e_d (fun _ => rfl) (by decide) (by unfold vp_in; decide) (by decide) rfl dX9_flows_82 (fun H locs G => ?_)
    refine lv_aload_n S.1 S.2.1 dX9_flows_83 rfl (lv_at hl 4 rfl) ?_
    refine s_get S hX G (i := 161) (kd := 9) (a := (I 161)) (v := .ref (E.2.2.2 162)) (C := RX9) (T := TX9) (N := 13) 0 (rfl : sh 161 = 9) (up_ne (by decide)) rfl rfl (by decide) rfl (fun _ h => (List.mem_cons_of_mem _ (List.mem_append_right _ h))) (by decide) (List.mem_of_getElem? (i := 1) rfl) (fun _ h => h) dX9_flows_84 ?_
    refine lv_iload_n S.1 S.2.1 dX9_flows_87 rfl (lv_at hl 3 rfl) ?_
    refine lv_bipush (v := (10 : Int32)) S.1 S.2.1 dX9_flows_88 (by decide) ?_
    refine s_iadd (v := (50 : Int32)) S dX9_flows_90 (by decide) ?_
    refine s_cut (α := Int32) (nL := 7) (E := E) (fun x I' L' => x = (runM (d 50) m_6) ∧ I' = (up I 162 (upd d 49 m_6)) ∧ L' = L) (fun x => [(5, .int m_6), (4, .int (d 17)), (3, .int (d 9)), (2, .int (40 : Int32)), (0, .ref (E.2.2.2 161)), (1, .int (0 : Int32))]) 118 (fun x => [.int x, .int (50 : Int32), .ref (E.2.2.2 162)]) (fun kJ_7 => ?_) (fun x I1 L1 H locs ls hP G hl => ?_)
    · refine lv_iload S.1 S.2.1 dX9_flows_91 (lv_at hl 0 rfl) ?_
      refine lv_iconst (v := (1 : Int32)) S.1 S.2.1 dX9_flows_93 (by decide) ?_
      refine lv_icmp_eq (tgt := 103) S.1 S.2.1 dX9_flows_94 (by decide) (fun c_8 => ?_) (fun c_8 => ?_)
      · refine lv_aload_n S.1 S.2.1 dX9_flows_103 rfl (lv_at hl 4 rfl) ?_
        refine s_get S hX G (i := 161) (kd := 9) (a := (I 161)) (v := .ref (E.2.2.2 162)) (C := RX9) (T := TX9) (N := 13) 0 (rfl : sh 161 = 9) (up_ne (by decide)) rfl rfl (by decide) rfl (fun _ h => (List.mem_cons_of_mem _ (List.mem_append_right _ h))) (by decide) (List.mem_of_getElem? (i := 1) rfl) (fun _ h => h) dX9_flows_104 ?_
        refine lv_iload_n S.1 S.2.1 dX9_flows_107 rfl (lv_at hl 3 rfl) ?_
        refine lv_bipush (v := (10 : Int32)) S.1 S.2.1 dX9_flows_108 (by decide) ?_
        refine s_iadd (v := (50 : Int32)) S dX9_flows_110 (by decide) ?_
        refine s_iald S hX G (i := 162) (kd := 284) (n := 270) (a := (upd d 49 m_6)) (x := (d 50)) (rfl : sh 162 = 284) up_eq rfl (by decide) (by unfold vp_in; decide) (show (upd d 49 m_6) (Int32.toNatClampNeg (50 : Int32)) = (d 50) from congrArg (upd d 49 m_6) (show Int32.toNatClampNeg (50 : Int32) = 50 from (by decide))) dX9_flows_111 ?_
        refine lv_iconst (v := (1 : Int32)) S.1 S.2.1 dX9_flows_112 (by decide) ?_
        refine s_iadd (v := ((d 50) + (1 : Int32))) S dX9_flows_113 rfl ?_
        refine lv_goto (tgt := 118) S.1 S.2.1 dX9_flows_114 (by decide) ?_
        exact kJ_7 ((d 50) + (1 : Int32)) _ _ _ _ _ ⟨(show ((d 50) + (1 : Int32)) = (runM (d 50) m_6) by subst em_6; simp [runM, c_8]), rfl, rfl⟩ G (lv_sub hl [0, 1, 2, 3, 4, 5] rfl)
      · refine lv_iload S.1 S.2.1 dX9_flows_97 (lv_at hl 0 rfl) ?_
        refine lv_iconst (v := (-1 : Int32)) S.1 S.2.1 dX9_flows_99 (by decide) ?_
        refine lv_icmp_ne (tgt := 117) S.1 S.2.1 dX9_flows_100 (by decide) (fun c_9 => ?_) (fun c_9 => ?_)
        · refine lv_iconst (v := (0 : Int32)) S.1 S.2.1 dX9_flows_117 (by decide) ?_
          exact kJ_7 (0 : Int32) _ _ _ _ _ ⟨(show (0 : Int32) = (runM (d 50) m_6) by subst em_6; simp [runM, c_8, c_9]), rfl, rfl⟩ G (lv_sub hl [0, 1, 2, 3, 4, 5] rfl)
        · refine lv_aload_n S.1 S.2.1 dX9_flows_103 rfl (lv_at hl 4 rfl) ?_
          refine s_get S hX G (i := 161) (kd := 9) (a := (I 161)) (v := .ref (E.2.2.2 162)) (C := RX9) (T := TX9) (N := 13) 0 (rfl : sh 161 = 9) (up_ne (by decide)) rfl rfl (by decide) rfl (fun _ h => (List.mem_cons_of_mem _ (List.mem_append_right _ h))) (by decide) (List.mem_of_getElem? (i := 1) rfl) (fun _ h => h) dX9_flows_104 ?_
          refine lv_iload_n S.1 S.2.1 dX9_flows_107 rfl (lv_at hl 3 rfl) ?_
          refine lv_bipush (v := (10 : Int32)) S.1 S.2.1 dX9_flows_108 (by decide) ?_
          refine s_iadd (v := (50 : Int32)) S dX9_flows_110 (by decide) ?_
          refine s_iald S hX G (i := 162) (kd := 284) (n := 270) (a := (upd d 49 m_6)) (x := (d 50)) (rfl : sh 162 = 284) up_eq rfl (by decide) (by unfold vp_in; decide) (show (upd d 49 m_6) (Int32.toNatClampNeg (50 : Int32)) = (d 50) from congrArg (upd d 49 m_6) (show Int32.toNatClampNeg (50 : Int32) = 50 from (by decide))) dX9_flows_111 ?_
          refine lv_iconst (v := (1 : Int32)) S.1 S.2.1 dX9_flows_112 (by decide) ?_
          refine s_iadd (v := ((d 50) + (1 : Int32))) S dX9_flows_113 rfl ?_
          refine lv_goto (tgt := 118) S.1 S.2.1 dX9_flows_114 (by decide) ?_
          exact kJ_7 ((d 50) + (1 : Int32)) _ _ _ _ _ ⟨(show ((d 50) + (1 : Int32)) = (runM (d 50) m_6) by subst em_6; simp [runM, c_8, c_9]), rfl, rfl⟩ G (lv_sub hl [0, 1, 2, 3, 4, 5] rfl)
    · obtain ⟨h0, hI, hL⟩ := hP
      have h0 : x = (runM (d 50) m_6) := h0
      have hl : lv_has ls 7 [(5, .int m_6), (4, .int (d 17)), (3, .int (d 9)), (2, .int (40 : Int32)), (0, .ref (E.2.2.2 161)), (1, .int (0 : Int32))] := hl
      obtain ⟨m_10, rfl⟩ : ∃ z, z = x := ⟨_, rfl⟩
      have em_10 : m_10 = (runM (d 50) m_6) := h0
      have G : GS E (up I 162 (upd d 49 m_6)) L sg H locs := G.same hI hL
      refine W.eq (g2 := F0 mg 118 ls [.int m_10, .int (50 : Int32), .ref (E.2.2.2 162)]) rfl ?_
      refine s_iast S hX G (i := 162) (kd := 284) (n := 270) (jn := 50) (a := (upd d 49 m_6)) (I' := (up I 162 (upd (upd d 49 m_6) 50 m_10))) (rfl : sh 162 = 284) up_eq (fun _ => rfl) (by decide) (by unfold vp_in; decide) (by decide) (by rw [up_up]) dX9_flows_118 (fun H locs G => ?_)
      refine lv_aload_n S.1 S.2.1 dX9_flows_119 rfl (lv_at hl 4 rfl) ?_
      refine s_get S hX G (i := 161) (kd := 9) (a := (I 161)) (v := .ref (E.2.2.2 162)) (C := RX9) (T := TX9) (N := 13) 0 (rfl : sh 161 = 9) (up_ne (by decide)) rfl rfl (by decide) rfl (fun _ h => (List.mem_cons_of_mem _ (List.mem_append_right _ h))) (by decide) (List.mem_of_getElem? (i := 1) rfl) (fun _ h => h) dX9_flows_120 ?_
      refine lv_iload_n S.1 S.2.1 dX9_flows_123 rfl (lv_at hl 3 rfl) ?_
      refine lv_iconst (v := (4 : Int32)) S.1 S.2.1 dX9_flows_124 (by decide) ?_
      refine s_iadd (v := (44 : Int32)) S dX9_flows_125 (by decide) ?_
      refine s_iald S hX G (i := 162) (kd := 284) (n := 270) (a := (upd (upd d 49 m_6) 50 m_10)) (x := (d 44)) (rfl : sh 162 = 284) up_eq rfl (by decide) (by unfold vp_in; decide) (show (upd (upd d 49 m_6) 50 m_10) (Int32.toNatClampNeg (44 : Int32)) = (d 44) from congrArg (upd (upd d 49 m_6) 50 m_10) (show Int32.toNatClampNeg (44 : Int32) = 44 from (by decide))) dX9_flows_126 ?_
      refine lv_istore (lv' := [(6, .int (d 44)), (5, .int m_6), (4, .int (d 17)), (3, .int (d 9)), (2, .int (40 : Int32)), (0, .ref (E.2.2.2 161)), (1, .int (0 : Int32))]) S.1 S.2.1 dX9_flows_127 hl (by decide) rfl (fun ls hl => ?_)
      refine s_cut (α := Int32) (nL := 7) (E := E) (fun x I' L' => x = (if m_6 = 9 then towF (d 44) (d 40 + d 41) else towF (d 44 + m_6 * d 40) (d 41)) ∧ I' = (up I 162 (upd (upd d 49 m_6) 50 m_10)) ∧ L' = L) (fun x => [(6, .int x), (5, .int m_6), (4, .int (d 17)), (3, .int (d 9)), (2, .int (40 : Int32)), (0, .ref (E.2.2.2 161)), (1, .int (0 : Int32))]) 190 (fun x => []) (fun kJ_11 => ?_) (fun x I1 L1 H locs ls hP G hl => ?_)
      · refine lv_iload S.1 S.2.1 dX9_flows_129 (lv_at hl 1 rfl) ?_
        refine lv_bipush (v := (9 : Int32)) S.1 S.2.1 dX9_flows_131 (by decide) ?_
        refine lv_icmp_ne (tgt := 163) S.1 S.2.1 dX9_flows_133 (by decide) (fun c_12 => ?_) (fun c_12 => ?_)
        · refine lv_iload S.1 S.2.1 dX9_flows_163 (lv_at hl 0 rfl) ?_
          refine lv_iload S.1 S.2.1 dX9_flows_165 (lv_at hl 1 rfl) ?_
          refine lv_aload_n S.1 S.2.1 dX9_flows_167 rfl (lv_at hl 5 rfl) ?_
          refine s_get S hX G (i := 161) (kd := 9) (a := (I 161)) (v := .ref (E.2.2.2 162)) (C := RX9) (T := TX9) (N := 13) 0 (rfl : sh 161 = 9) (up_ne (by decide)) rfl rfl (by decide) rfl (fun _ h => (List.mem_cons_of_mem _ (List.mem_append_right _ h))) (by decide) (List.mem_of_getElem? (i := 1) rfl) (fun _ h => h) dX9_flows_168 ?_
          refine lv_iload_n S.1 S.2.1 dX9_flows_171 rfl (lv_at hl 4 rfl) ?_
          refine lv_iconst (v := (0 : Int32)) S.1 S.2.1 dX9_flows_172 (by decide) ?_
          refine s_iadd (v := (40 : Int32)) S dX9_flows_173 (by decide) ?_
          refine s_iald S hX G (i := 162) (kd := 284) (n := 270) (a := (upd (upd d 49 m_6) 50 m_10)) (x := (d 40)) (rfl : sh 162 = 284) up_eq rfl (by decide) (by unfold vp_in; decide) (show (upd (upd d 49 m_6) 50 m_10) (Int32.toNatClampNeg (40 : Int32)) = (d 40) from congrArg (upd (upd d 49 m_6) 50 m_10) (show Int32.toNatClampNeg (40 : Int32) = 40 from (by decide))) dX9_flows_174 ?_
          refine s_imul (v := (m_6 * (d 40))) S dX9_flows_175 rfl ?_
          refine s_iadd (v := ((d 44) + (m_6 * (d 40)))) S dX9_flows_176 rfl ?_
          refine lv_aload_n S.1 S.2.1 dX9_flows_177 rfl (lv_at hl 5 rfl) ?_
          refine s_get S hX G (i := 161) (kd := 9) (a := (I 161)) (v := .ref (E.2.2.2 162)) (C := RX9) (T := TX9) (N := 13) 0 (rfl : sh 161 = 9) (up_ne (by decide)) rfl rfl (by decide) rfl (fun _ h => (List.mem_cons_of_mem _ (List.mem_append_right _ h))) (by decide) (List.mem_of_getElem? (i := 1) rfl) (fun _ h => h) dX9_flows_178 ?_
          refine lv_iload_n S.1 S.2.1 dX9_flows_181 rfl (lv_at hl 4 rfl) ?_
          refine lv_iconst (v := (1 : Int32)) S.1 S.2.1 dX9_flows_182 (by decide) ?_
          refine s_iadd (v := (41 : Int32)) S dX9_flows_183 (by decide) ?_
          refine s_iald S hX G (i := 162) (kd := 284) (n := 270) (a := (upd (upd d 49 m_6) 50 m_10)) (x := (d 41)) (rfl : sh 162 = 284) up_eq rfl (by decide) (by unfold vp_in; decide) (show (upd (upd d 49 m_6) 50 m_10) (Int32.toNatClampNeg (41 : Int32)) = (d 41) from congrArg (upd (upd d 49 m_6) 50 m_10) (show Int32.toNatClampNeg (41 : Int32) = 41 from (by decide))) dX9_flows_184 ?_
          refine s_callS (As := [.int ((d 44) + (m_6 * (d 40))), .int (d 41)]) (rest := []) S hX G (k_X9_toward l E ((d 44) + (m_6 * (d 40))) (d 41)) (va_cwS (bytes := cX9_toward) (maxL := 2) (ret := (some .int)) 2 S.2.2.2.2 gX9_flows_X9_toward rfl rfl rfl (by decide +kernel) ⟨Nat.le_of_ble_eq_true rfl, Nat.le_of_ble_eq_true rfl⟩) rfl hl.1 rfl (Nat.le_of_ble_eq_true rfl) ⟨Nat.zero_le _, Nat.zero_le _⟩ dX9_flows_185 (fun v I1 L1 H locs hR G => ?_)
          obtain ⟨hv, hI, hL⟩ := hR
          subst hv
          have G : GS E (up I 162 (upd (upd d 49 m_6) 50 m_10)) L sg H locs := G.same hI hL
          refine W.eq (g2 := F0 mg 188 ls [.int (towF ((d 44) + (m_6 * (d 40))) (d 41))]) rfl ?_
          refine lv_topi (fun y_13 ey_13 => ?_)
          refine lv_istore (lv' := [(6, .int y_13), (5, .int m_6), (4, .int (d 17)), (3, .int (d 9)), (2, .int (40 : Int32)), (0, .ref (E.2.2.2 161)), (1, .int (0 : Int32))]) S.1 S.2.1 dX9_flows_188 hl (by decide) rfl (fun ls hl => ?_)
          exact kJ_11 y_13 _ _ _ _ _ ⟨(show y_13 = (if m_6 = 9 then towF (d 44) (d 40 + d 41) else towF (d 44 + m_6 * d 40) (d 41)) by subst ey_13 em_10 em_6; simp [c_12]), rfl, rfl⟩ G (lv_sub hl [0, 1, 2, 3, 4, 5, 6] rfl)
        · refine lv_iload S.1 S.2.1 dX9_flows_136 (lv_at hl 0 rfl) ?_
          refine lv_aload_n S.1 S.2.1 dX9_flows_138 rfl (lv_at hl 5 rfl) ?_
          refine s_get S hX G (i := 161) (kd := 9) (a := (I 161)) (v := .ref (E.2.2.2 162)) (C := RX9) (T := TX9) (N := 13) 0 (rfl : sh 161 = 9) (up_ne (by decide)) rfl rfl (by decide) rfl (fun _ h => (List.mem_cons_of_mem _ (List.mem_append_right _ h))) (by decide) (List.mem_of_getElem? (i := 1) rfl) (fun _ h => h) dX9_flows_139 ?_
          refine lv_iload_n S.1 S.2.1 dX9_flows_142 rfl (lv_at hl 4 rfl) ?_
          refine lv_iconst (v := (0 : Int32)) S.1 S.2.1 dX9_flows_143 (by decide) ?_
          refine s_iadd (v := (40 : Int32)) S dX9_flows_144 (by decide) ?_
          refine s_iald S hX G (i := 162) (kd := 284) (n := 270) (a := (upd (upd d 49 m_6) 50 m_10)) (x := (d 40)) (rfl : sh 162 = 284) up_eq rfl (by decide) (by unfold vp_in; decide) (show (upd (upd d 49 m_6) 50 m_10) (Int32.toNatClampNeg (40 : Int32)) = (d 40) from congrArg (upd (upd d 49 m_6) 50 m_10) (show Int32.toNatClampNeg (40 : Int32) = 40 from (by decide))) dX9_flows_145 ?_
          refine lv_aload_n S.1 S.2.1 dX9_flows_146 rfl (lv_at hl 5 rfl) ?_
          refine s_get S hX G (i := 161) (kd := 9) (a := (I 161)) (v := .ref (E.2.2.2 162)) (C := RX9) (T := TX9) (N := 13) 0 (rfl : sh 161 = 9) (up_ne (by decide)) rfl rfl (by decide) rfl (fun _ h => (List.mem_cons_of_mem _ (List.mem_append_right _ h))) (by decide) (List.mem_of_getElem? (i := 1) rfl) (fun _ h => h) dX9_flows_147 ?_
          refine lv_iload_n S.1 S.2.1 dX9_flows_150 rfl (lv_at hl 4 rfl) ?_
          refine lv_iconst (v := (1 : Int32)) S.1 S.2.1 dX9_flows_151 (by decide) ?_
          refine s_iadd (v := (41 : Int32)) S dX9_flows_152 (by decide) ?_
          refine s_iald S hX G (i := 162) (kd := 284) (n := 270) (a := (upd (upd d 49 m_6) 50 m_10)) (x := (d 41)) (rfl : sh 162 = 284) up_eq rfl (by decide) (by unfold vp_in; decide) (show (upd (upd d 49 m_6) 50 m_10) (Int32.toNatClampNeg (41 : Int32)) = (d 41) from congrArg (upd (upd d 49 m_6) 50 m_10) (show Int32.toNatClampNeg (41 : Int32) = 41 from (by decide))) dX9_flows_153 ?_
          refine s_iadd (v := ((d 40) + (d 41))) S dX9_flows_154 rfl ?_
          refine s_callS (As := [.int (d 44), .int ((d 40) + (d 41))]) (rest := []) S hX G (k_X9_toward l E (d 44) ((d 40) + (d 41))) (va_cwS (bytes := cX9_toward) (maxL := 2) (ret := (some .int)) 2 S.2.2.2.2 gX9_flows_X9_toward rfl rfl rfl (by decide +kernel) ⟨Nat.le_of_ble_eq_true rfl, Nat.le_of_ble_eq_true rfl⟩) rfl hl.1 rfl (Nat.le_of_ble_eq_true rfl) ⟨Nat.zero_le _, Nat.zero_le _⟩ dX9_flows_155 (fun v I1 L1 H locs hR G => ?_)
          obtain ⟨hv, hI, hL⟩ := hR
          subst hv
          have G : GS E (up I 162 (upd (upd d 49 m_6) 50 m_10)) L sg H locs := G.same hI hL
          refine W.eq (g2 := F0 mg 158 ls [.int (towF (d 44) ((d 40) + (d 41)))]) rfl ?_
          refine lv_topi (fun y_14 ey_14 => ?_)
          refine lv_istore (lv' := [(6, .int y_14), (5, .int m_6), (4, .int (d 17)), (3, .int (d 9)), (2, .int (40 : Int32)), (0, .ref (E.2.2.2 161)), (1, .int (0 : Int32))]) S.1 S.2.1 dX9_flows_158 hl (by decide) rfl (fun ls hl => ?_)
          refine lv_goto (tgt := 190) S.1 S.2.1 dX9_flows_160 (by decide) ?_
          exact kJ_11 y_14 _ _ _ _ _ ⟨(show y_14 = (if m_6 = 9 then towF (d 44) (d 40 + d 41) else towF (d 44 + m_6 * d 40) (d 41)) by subst ey_14 em_10 em_6; simp [c_12]), rfl, rfl⟩ G (lv_sub hl [0, 1, 2, 3, 4, 5, 6] rfl)
      · obtain ⟨h0, hI, hL⟩ := hP
        have h0 : x = (if m_6 = 9 then towF (d 44) (d 40 + d 41) else towF (d 44 + m_6 * d 40) (d 41)) := h0
        have hl : lv_has ls 7 [(6, .int x), (5, .int m_6), (4, .int (d 17)), (3, .int (d 9)), (2, .int (40 : Int32)), (0, .ref (E.2.2.2 161)), (1, .int (0 : Int32))] := hl
        obtain ⟨m_15, rfl⟩ : ∃ z, z = x := ⟨_, rfl⟩
        have em_15 : m_15 = (if m_6 = 9 then towF (d 44) (d 40 + d 41) else towF (d 44 + m_6 * d 40) (d 41)) := h0
        have G : GS E (up I 162 (upd (upd d 49 m_6) 50 m_10)) L sg H locs := G.same hI hL
        refine W.eq (g2 := F0 mg 190 ls []) rfl ?_
        refine lv_aload_n S.1 S.2.1 dX9_flows_190 rfl (lv_at hl 5 rfl) ?_
        refine s_get S hX G (i := 161) (kd := 9) (a := (I 161)) (v := .ref (E.2.2.2 162)) (C := RX9) (T := TX9) (N := 13) 0 (rfl : sh 161 = 9) (up_ne (by decide)) rfl rfl (by decide) rfl (fun _ h => (List.mem_cons_of_mem _ (List.mem_append_right _ h))) (by decide) (List.mem_of_getElem? (i := 1) rfl) (fun _ h => h) dX9_flows_191 ?_
        refine lv_iload_n S.1 S.2.1 dX9_flows_194 rfl (lv_at hl 4 rfl) ?_
        refine lv_iconst (v := (4 : Int32)) S.1 S.2.1 dX9_flows_195 (by decide) ?_
        refine s_iadd (v := (44 : Int32)) S dX9_flows_196 (by decide) ?_
        refine s_cut (α := Int32) (nL := 7) (E := E) (fun x I' L' => x = (clampM m_15) ∧ I' = (up I 162 (upd (upd d 49 m_6) 50 m_10)) ∧ L' = L) (fun x => [(6, .int m_15), (5, .int m_6), (4, .int (d 17)), (3, .int (d 9)), (2, .int (40 : Int32)), (0, .ref (E.2.2.2 161)), (1, .int (0 : Int32))]) 223 (fun x => [.int x, .int (44 : Int32), .ref (E.2.2.2 162)]) (fun kJ_16 => ?_) (fun x I1 L1 H locs ls hP G hl => ?_)
        · refine lv_iload S.1 S.2.1 dX9_flows_197 (lv_at hl 0 rfl) ?_
          refine lv_ldc (v := (1000000 : Int32)) S.1 S.2.1 S.2.2.2.1 (S.2.2.2.2 _ (List.mem_of_getElem? (i := 2) rfl)) dX9_flows_199 ?_
          refine lv_icmp_le (tgt := 209) S.1 S.2.1 dX9_flows_201 (by decide) (fun c_17 => ?_) (fun c_17 => ?_)
          · refine lv_iload S.1 S.2.1 dX9_flows_209 (lv_at hl 0 rfl) ?_
            refine lv_ldc (v := (-1000000 : Int32)) S.1 S.2.1 S.2.2.2.1 (S.2.2.2.2 _ (List.mem_of_getElem? (i := 3) rfl)) dX9_flows_211 ?_
            refine lv_icmp_ge (tgt := 221) S.1 S.2.1 dX9_flows_213 (by decide) (fun c_18 => ?_) (fun c_18 => ?_)
            · refine lv_iload S.1 S.2.1 dX9_flows_221 (lv_at hl 0 rfl) ?_
              exact kJ_16 m_15 _ _ _ _ _ ⟨(show m_15 = (clampM m_15) by subst em_15 em_10 em_6; simp [clampM, c_17, c_18]), rfl, rfl⟩ G (lv_sub hl [0, 1, 2, 3, 4, 5, 6] rfl)
            · refine lv_ldc (v := (-1000000 : Int32)) S.1 S.2.1 S.2.2.2.1 (S.2.2.2.2 _ (List.mem_of_getElem? (i := 3) rfl)) dX9_flows_216 ?_
              refine lv_goto (tgt := 223) S.1 S.2.1 dX9_flows_218 (by decide) ?_
              exact kJ_16 (-1000000 : Int32) _ _ _ _ _ ⟨(show (-1000000 : Int32) = (clampM m_15) by subst em_15 em_10 em_6; simp [clampM, c_17, c_18]), rfl, rfl⟩ G (lv_sub hl [0, 1, 2, 3, 4, 5, 6] rfl)
          · refine lv_ldc (v := (1000000 : Int32)) S.1 S.2.1 S.2.2.2.1 (S.2.2.2.2 _ (List.mem_of_getElem? (i := 2) rfl)) dX9_flows_204 ?_
            refine lv_goto (tgt := 223) S.1 S.2.1 dX9_flows_206 (by decide) ?_
            exact kJ_16 (1000000 : Int32) _ _ _ _ _ ⟨(show (1000000 : Int32) = (clampM m_15) by subst em_15 em_10 em_6; simp [clampM, c_17]), rfl, rfl⟩ G (lv_sub hl [0, 1, 2, 3, 4, 5, 6] rfl)
        · obtain ⟨h0, hI, hL⟩ := hP
          have h0 : x = (clampM m_15) := h0
          have hl : lv_has ls 7 [(6, .int m_15), (5, .int m_6), (4, .int (d 17)), (3, .int (d 9)), (2, .int (40 : Int32)), (0, .ref (E.2.2.2 161)), (1, .int (0 : Int32))] := hl
          obtain ⟨m_19, rfl⟩ : ∃ z, z = x := ⟨_, rfl⟩
          have em_19 : m_19 = (clampM m_15) := h0
          have G : GS E (up I 162 (upd (upd d 49 m_6) 50 m_10)) L sg H locs := G.same hI hL
          refine W.eq (g2 := F0 mg 223 ls [.int m_19, .int (44 : Int32), .ref (E.2.2.2 162)]) rfl ?_
          refine s_iast S hX G (i := 162) (kd := 284) (n := 270) (jn := 44) (a := (upd (upd d 49 m_6) 50 m_10)) (I' := (up I 162 (upd (upd (upd d 49 m_6) 50 m_10) 44 m_19))) (rfl : sh 162 = 284) up_eq (fun _ => rfl) (by decide) (by unfold vp_in; decide) (by decide) (by rw [up_up]) dX9_flows_223 (fun H locs G => ?_)
          refine s_vret S G hr hlk dX9_flows_224 ?_
          exact ⟨rfl, (st_eq1 (Eq.trans up_eq (show (upd (upd (upd d 49 m_6) 50 m_10) 44 m_19) = (flF d 8 40) by subst em_19 em_15 em_10 em_6; rfl)) (fun _ g0 => (up_ne g0))), rfl⟩
set_option maxHeartbeats 4000000 in
set_option maxRecDepth 100000 in
theorem k_X9_heats_0 (l : Launch) (E : Ev) {I : SI} {L : SL} (d : Nat → Int32) (e_d : I (162) = d) : CS l yX9_heats wsX9_heats ({ frames := 2, cells := 0, slots := 0, locals := 42 }) E [.ref (E.2.2.2 161), .int (0 : Int32)] I L (fun vv I' L' => vv = none ∧ I' = (up I (162) (htF d 40)) ∧ L' = L) := by
  refine CS.of (cc := cX9_heats) (maxL := 6) (ret := none) (by decide) rfl (Nat.le_of_ble_eq_true rfl) ?_
  intro pg en sg mg below meth cg ls S hr hlk hX G hl
  have S : CallFix pg mg cg cX9_heats 6 sg _ wsX9_heats RX9 := S
  have hl : lv_has ls 6 [(0, .ref (E.2.2.2 161)), (1, .int (0 : Int32))] := hl
  refine lv_aload_n S.1 S.2.1 dX9_heats_0 rfl (lv_at hl 0 rfl) ?_
  refine lv_iload_n S.1 S.2.1 dX9_heats_1 rfl (lv_at hl 1 rfl) ?_
  refine s_callV (C := RX9) (As := [.int (0 : Int32)]) (rest := []) (i := 161) (kd := 9) S hX G (k_X9_sizeOf_0 l E d e_d) (cwV (bytes := cX9_sizeOf) (maxL := 3) (ret := (some .int)) 1 S.2.2.2.2 gX9_heats_X9_sizeOf rfl rfl rfl (by decide +kernel) ⟨Nat.le_of_ble_eq_true rfl, Nat.le_of_ble_eq_true rfl⟩) (rfl : sh 161 = 9) rfl rfl rfl (by decide) rfl hl.1 rfl (Nat.le_of_ble_eq_true rfl) ⟨Nat.zero_le _, Nat.zero_le _⟩ dX9_heats_2 (fun v I1 L1 H locs hR G => ?_)
  obtain ⟨hv, hI, hL⟩ := hR
  subst hv
  have G : GS E I L sg H locs := G.same hI hL
  refine W.eq (g2 := F0 mg 5 ls [.int (absM (d 44))]) rfl ?_
  refine lv_topi (fun y_1 ey_1 => ?_)
  refine lv_i2l (v := (Int32.toInt64 y_1)) S.1 S.2.1 dX9_heats_5 rfl ?_
  refine lv_lstore_n (lv' := [(2, .long (Int32.toInt64 y_1)), (0, .ref (E.2.2.2 161)), (1, .int (0 : Int32))]) S.1 S.2.1 dX9_heats_6 rfl hl (by decide) rfl (fun ls hl => ?_)
  refine lv_aload_n S.1 S.2.1 dX9_heats_7 rfl (lv_at hl 1 rfl) ?_
  refine s_get S hX G (i := 161) (kd := 9) (a := (I 161)) (v := .ref (E.2.2.2 162)) (C := RX9) (T := TX9) (N := 13) 0 (rfl : sh 161 = 9) rfl rfl rfl (by decide) rfl (fun _ h => (List.mem_cons_of_mem _ (List.mem_append_right _ h))) (by decide) (List.mem_of_getElem? (i := 1) rfl) (fun _ h => h) dX9_heats_8 ?_
  refine lv_iload_n S.1 S.2.1 dX9_heats_11 rfl (lv_at hl 2 rfl) ?_
  refine s_callS (As := [.int (0 : Int32)]) (rest := [.ref (E.2.2.2 162)]) S hX G (k_X9_loadAt_0 l E) (va_cwS (bytes := cX9_loadAt) (maxL := 1) (ret := (some .int)) 1 S.2.2.2.2 gX9_heats_X9_loadAt rfl rfl rfl (by decide +kernel) ⟨Nat.le_of_ble_eq_true rfl, Nat.le_of_ble_eq_true rfl⟩) rfl hl.1 rfl (Nat.le_of_ble_eq_true rfl) ⟨Nat.zero_le _, Nat.zero_le _⟩ dX9_heats_12 (fun v I1 L1 H locs hR G => ?_)
  obtain ⟨hv, hI, hL⟩ := hR
  subst hv
  have G : GS E I L sg H locs := G.same hI hL
  refine W.eq (g2 := F0 mg 15 ls [.int (40 : Int32), .ref (E.2.2.2 162)]) rfl ?_
  refine lv_iconst (v := (5 : Int32)) S.1 S.2.1 dX9_heats_15 (by decide) ?_
  refine s_iadd (v := (45 : Int32)) S dX9_heats_16 (by decide) ?_
  refine s_iald S hX G (i := 162) (kd := 284) (n := 270) (a := d) (x := (d 45)) (rfl : sh 162 = 284) e_d rfl (by decide) (by unfold vp_in; decide) (congrArg d (by decide)) dX9_heats_17 ?_
  refine lv_i2l (v := (Int32.toInt64 (d 45))) S.1 S.2.1 dX9_heats_18 rfl ?_
  refine lv_lload_n S.1 S.2.1 dX9_heats_19 rfl (lv_at hl 0 rfl) ?_
  refine lv_lload_n S.1 S.2.1 dX9_heats_20 rfl (lv_at hl 0 rfl) ?_
  refine s_lmul (v := ((Int32.toInt64 y_1) * (Int32.toInt64 y_1))) S dX9_heats_21 rfl ?_
  refine lv_ldc2 (v := (1000 : Int64)) S.1 S.2.1 S.2.2.2.1 (S.2.2.2.2 _ (List.mem_of_getElem? (i := 2) rfl)) dX9_heats_22 ?_
  refine s_ldiv (v := (((Int32.toInt64 y_1) * (Int32.toInt64 y_1)) / (1000 : Int64))) S dX9_heats_25 (by decide) rfl ?_
  refine s_ladd (v := ((Int32.toInt64 (d 45)) + (((Int32.toInt64 y_1) * (Int32.toInt64 y_1)) / (1000 : Int64)))) S dX9_heats_26 rfl ?_
  refine lv_aload_n S.1 S.2.1 dX9_heats_27 rfl (lv_at hl 1 rfl) ?_
  refine s_get S hX G (i := 161) (kd := 9) (a := (I 161)) (v := .ref (E.2.2.2 162)) (C := RX9) (T := TX9) (N := 13) 0 (rfl : sh 161 = 9) rfl rfl rfl (by decide) rfl (fun _ h => (List.mem_cons_of_mem _ (List.mem_append_right _ h))) (by decide) (List.mem_of_getElem? (i := 1) rfl) (fun _ h => h) dX9_heats_28 ?_
  refine lv_bipush (v := (6 : Int32)) S.1 S.2.1 dX9_heats_31 (by decide) ?_
  refine s_iald S hX G (i := 162) (kd := 284) (n := 270) (a := d) (x := (d 6)) (rfl : sh 162 = 284) e_d rfl (by decide) (by unfold vp_in; decide) (congrArg d (by decide)) dX9_heats_33 ?_
  refine lv_i2l (v := (Int32.toInt64 (d 6))) S.1 S.2.1 dX9_heats_34 rfl ?_
  refine s_lsub (v := (((Int32.toInt64 (d 45)) + (((Int32.toInt64 y_1) * (Int32.toInt64 y_1)) / (1000 : Int64))) - (Int32.toInt64 (d 6)))) S dX9_heats_35 rfl ?_
  refine lv_lstore (lv' := [(4, .long (((Int32.toInt64 (d 45)) + (((Int32.toInt64 y_1) * (Int32.toInt64 y_1)) / (1000 : Int64))) - (Int32.toInt64 (d 6)))), (2, .long (Int32.toInt64 y_1)), (0, .ref (E.2.2.2 161)), (1, .int (0 : Int32))]) S.1 S.2.1 dX9_heats_36 hl (by decide) rfl (fun ls hl => ?_)
  refine lv_lload S.1 S.2.1 dX9_heats_38 (lv_at hl 0 rfl) ?_
  refine lv_lconst (v := (0 : Int64)) S.1 S.2.1 dX9_heats_40 (by decide) ?_
  refine W.lcmp S.1 S.2.1 dX9_heats_41 ?_
  refine s_if_ge_c (tgt := 49) S dX9_heats_42 (by decide) (fun c_2 => ?_) (fun c_2 => ?_)
  · refine lv_lload S.1 S.2.1 dX9_heats_49 (lv_at hl 0 rfl) ?_
    refine lv_ldc2 (v := (2000000000 : Int64)) S.1 S.2.1 S.2.2.2.1 (S.2.2.2.2 _ (List.mem_of_getElem? (i := 3) rfl)) dX9_heats_51 ?_
    refine W.lcmp S.1 S.2.1 dX9_heats_54 ?_
    refine s_if_le_c (tgt := 64) S dX9_heats_55 (by decide) (fun c_3 => ?_) (fun c_3 => ?_)
    · refine lv_lload S.1 S.2.1 dX9_heats_64 (lv_at hl 0 rfl) ?_
      refine lv_lstore (lv' := [(4, .long (((Int32.toInt64 (d 45)) + (((Int32.toInt64 y_1) * (Int32.toInt64 y_1)) / (1000 : Int64))) - (Int32.toInt64 (d 6)))), (2, .long (Int32.toInt64 y_1)), (0, .ref (E.2.2.2 161)), (1, .int (0 : Int32))]) S.1 S.2.1 dX9_heats_66 hl (by decide) rfl (fun ls hl => ?_)
      refine lv_aload_n S.1 S.2.1 dX9_heats_68 rfl (lv_at hl 2 rfl) ?_
      refine s_get S hX G (i := 161) (kd := 9) (a := (I 161)) (v := .ref (E.2.2.2 162)) (C := RX9) (T := TX9) (N := 13) 0 (rfl : sh 161 = 9) rfl rfl rfl (by decide) rfl (fun _ h => (List.mem_cons_of_mem _ (List.mem_append_right _ h))) (by decide) (List.mem_of_getElem? (i := 1) rfl) (fun _ h => h) dX9_heats_69 ?_
      refine lv_iload_n S.1 S.2.1 dX9_heats_72 rfl (lv_at hl 3 rfl) ?_
      refine s_callS (As := [.int (0 : Int32)]) (rest := [.ref (E.2.2.2 162)]) S hX G (k_X9_loadAt_0 l E) (va_cwS (bytes := cX9_loadAt) (maxL := 1) (ret := (some .int)) 1 S.2.2.2.2 gX9_heats_X9_loadAt rfl rfl rfl (by decide +kernel) ⟨Nat.le_of_ble_eq_true rfl, Nat.le_of_ble_eq_true rfl⟩) rfl hl.1 rfl (Nat.le_of_ble_eq_true rfl) ⟨Nat.zero_le _, Nat.zero_le _⟩ dX9_heats_73 (fun v I1 L1 H locs hR G => ?_)
      obtain ⟨hv, hI, hL⟩ := hR
      subst hv
      have G : GS E I L sg H locs := G.same hI hL
      refine W.eq (g2 := F0 mg 76 ls [.int (40 : Int32), .ref (E.2.2.2 162)]) rfl ?_
      refine lv_iconst (v := (5 : Int32)) S.1 S.2.1 dX9_heats_76 (by decide) ?_
      refine s_iadd (v := (45 : Int32)) S dX9_heats_77 (by decide) ?_
      refine lv_lload S.1 S.2.1 dX9_heats_78 (lv_at hl 0 rfl) ?_
      refine lv_l2i (v := (Int64.toInt32 (((Int32.toInt64 (d 45)) + (((Int32.toInt64 y_1) * (Int32.toInt64 y_1)) / (1000 : Int64))) - (Int32.toInt64 (d 6))))) S.1 S.2.1 dX9_heats_80 rfl ?_
      refine lv_topi (fun y_4 ey_4 => ?_)
      refine s_iast S hX G (i := 162) (kd := 284) (n := 270) (jn := 45) (a := d) (I' := (up I 162 (upd d 45 y_4))) (rfl : sh 162 = 284) e_d (fun _ => rfl) (by decide) (by unfold vp_in; decide) (by decide) rfl dX9_heats_81 (fun H locs G => ?_)
      refine s_vret S G hr hlk dX9_heats_82 ?_
      exact ⟨rfl, (st_eq1 (Eq.trans up_eq (show (upd d 45 y_4) = (htF d 40) by subst ey_4 ey_1; simp [htF, clampL, c_2, c_3])) (fun _ g0 => (up_ne g0))), rfl⟩
    · refine lv_ldc2 (v := (2000000000 : Int64)) S.1 S.2.1 S.2.2.2.1 (S.2.2.2.2 _ (List.mem_of_getElem? (i := 3) rfl)) dX9_heats_58 ?_
      refine lv_goto (tgt := 66) S.1 S.2.1 dX9_heats_61 (by decide) ?_
      refine lv_lstore (lv' := [(4, .long (2000000000 : Int64)), (2, .long (Int32.toInt64 y_1)), (0, .ref (E.2.2.2 161)), (1, .int (0 : Int32))]) S.1 S.2.1 dX9_heats_66 hl (by decide) rfl (fun ls hl => ?_)
      refine lv_aload_n S.1 S.2.1 dX9_heats_68 rfl (lv_at hl 2 rfl) ?_
      refine s_get S hX G (i := 161) (kd := 9) (a := (I 161)) (v := .ref (E.2.2.2 162)) (C := RX9) (T := TX9) (N := 13) 0 (rfl : sh 161 = 9) rfl rfl rfl (by decide) rfl (fun _ h => (List.mem_cons_of_mem _ (List.mem_append_right _ h))) (by decide) (List.mem_of_getElem? (i := 1) rfl) (fun _ h => h) dX9_heats_69 ?_
      refine lv_iload_n S.1 S.2.1 dX9_heats_72 rfl (lv_at hl 3 rfl) ?_
      refine s_callS (As := [.int (0 : Int32)]) (rest := [.ref (E.2.2.2 162)]) S hX G (k_X9_loadAt_0 l E) (va_cwS (bytes := cX9_loadAt) (maxL := 1) (ret := (some .int)) 1 S.2.2.2.2 gX9_heats_X9_loadAt rfl rfl rfl (by decide +kernel) ⟨Nat.le_of_ble_eq_true rfl, Nat.le_of_ble_eq_true rfl⟩) rfl hl.1 rfl (Nat.le_of_ble_eq_true rfl) ⟨Nat.zero_le _, Nat.zero_le _⟩ dX9_heats_73 (fun v I1 L1 H locs hR G => ?_)
      obtain ⟨hv, hI, hL⟩ := hR
      subst hv
      have G : GS E I L sg H locs := G.same hI hL
      refine W.eq (g2 := F0 mg 76 ls [.int (40 : Int32), .ref (E.2.2.2 162)]) rfl ?_
      refine lv_iconst (v := (5 : Int32)) S.1 S.2.1 dX9_heats_76 (by decide) ?_
      refine s_iadd (v := (45 : Int32)) S dX9_heats_77 (by decide) ?_
      refine lv_lload S.1 S.2.1 dX9_heats_78 (lv_at hl 0 rfl) ?_
      refine lv_l2i (v := (Int64.toInt32 (2000000000 : Int64))) S.1 S.2.1 dX9_heats_80 rfl ?_
      refine lv_topi (fun y_5 ey_5 => ?_)
      refine s_iast S hX G (i := 162) (kd := 284) (n := 270) (jn := 45) (a := d) (I' := (up I 162 (upd d 45 y_5))) (rfl : sh 162 = 284) e_d (fun _ => rfl) (by decide) (by unfold vp_in; decide) (by decide) rfl dX9_heats_81 (fun H locs G => ?_)
      refine s_vret S G hr hlk dX9_heats_82 ?_
      exact ⟨rfl, (st_eq1 (Eq.trans up_eq (show (upd d 45 y_5) = (htF d 40) by subst ey_5 ey_1; simp [htF, clampL, c_2, c_3])) (fun _ g0 => (up_ne g0))), rfl⟩
  · refine lv_lconst (v := (0 : Int64)) S.1 S.2.1 dX9_heats_45 (by decide) ?_
    refine lv_goto (tgt := 66) S.1 S.2.1 dX9_heats_46 (by decide) ?_
    refine lv_lstore (lv' := [(4, .long (0 : Int64)), (2, .long (Int32.toInt64 y_1)), (0, .ref (E.2.2.2 161)), (1, .int (0 : Int32))]) S.1 S.2.1 dX9_heats_66 hl (by decide) rfl (fun ls hl => ?_)
    refine lv_aload_n S.1 S.2.1 dX9_heats_68 rfl (lv_at hl 2 rfl) ?_
    refine s_get S hX G (i := 161) (kd := 9) (a := (I 161)) (v := .ref (E.2.2.2 162)) (C := RX9) (T := TX9) (N := 13) 0 (rfl : sh 161 = 9) rfl rfl rfl (by decide) rfl (fun _ h => (List.mem_cons_of_mem _ (List.mem_append_right _ h))) (by decide) (List.mem_of_getElem? (i := 1) rfl) (fun _ h => h) dX9_heats_69 ?_
    refine lv_iload_n S.1 S.2.1 dX9_heats_72 rfl (lv_at hl 3 rfl) ?_
    refine s_callS (As := [.int (0 : Int32)]) (rest := [.ref (E.2.2.2 162)]) S hX G (k_X9_loadAt_0 l E) (va_cwS (bytes := cX9_loadAt) (maxL := 1) (ret := (some .int)) 1 S.2.2.2.2 gX9_heats_X9_loadAt rfl rfl rfl (by decide +kernel) ⟨Nat.le_of_ble_eq_true rfl, Nat.le_of_ble_eq_true rfl⟩) rfl hl.1 rfl (Nat.le_of_ble_eq_true rfl) ⟨Nat.zero_le _, Nat.zero_le _⟩ dX9_heats_73 (fun v I1 L1 H locs hR G => ?_)
    obtain ⟨hv, hI, hL⟩ := hR
    subst hv
    have G : GS E I L sg H locs := G.same hI hL
    refine W.eq (g2 := F0 mg 76 ls [.int (40 : Int32), .ref (E.2.2.2 162)]) rfl ?_
    refine lv_iconst (v := (5 : Int32)) S.1 S.2.1 dX9_heats_76 (by decide) ?_
    refine s_iadd (v := (45 : Int32)) S dX9_heats_77 (by decide) ?_
    refine lv_lload S.1 S.2.1 dX9_heats_78 (lv_at hl 0 rfl) ?_
    refine lv_l2i (v := (Int64.toInt32 (0 : Int64))) S.1 S.2.1 dX9_heats_80 rfl ?_
    refine lv_topi (fun y_6 ey_6 => ?_)
    refine s_iast S hX G (i := 162) (kd := 284) (n := 270) (jn := 45) (a := d) (I' := (up I 162 (upd d 45 y_6))) (rfl : sh 162 = 284) e_d (fun _ => rfl) (by decide) (by unfold vp_in; decide) (by decide) rfl dX9_heats_81 (fun H locs G => ?_)
    refine s_vret S G hr hlk dX9_heats_82 ?_
    exact ⟨rfl, (st_eq1 (Eq.trans up_eq (show (upd d 45 y_6) = (htF d 40) by subst ey_6 ey_1; simp [htF, clampL, c_2])) (fun _ g0 => (up_ne g0))), rfl⟩
set_option maxHeartbeats 4000000 in
set_option maxRecDepth 100000 in
theorem k_X9_looks_0 (l : Launch) (E : Ev) {I : SI} {L : SL} (d : Nat → Int32) (e_d : I (162) = d) : CS l yX9_looks wsX9_looks ({ frames := 2, cells := 0, slots := 0, locals := 42 }) E [.ref (E.2.2.2 161), .int (0 : Int32)] I L (fun vv I' L' => vv = none ∧ I' = (up I (162) (lkF d 40)) ∧ L' = L) := by
  refine CS.of (cc := cX9_looks) (maxL := 3) (ret := none) (by decide) rfl (Nat.le_of_ble_eq_true rfl) ?_
  intro pg en sg mg below meth cg ls S hr hlk hX G hl
  have S : CallFix pg mg cg cX9_looks 3 sg _ wsX9_looks RX9 := S
  have hl : lv_has ls 3 [(0, .ref (E.2.2.2 161)), (1, .int (0 : Int32))] := hl
  refine lv_iload_n S.1 S.2.1 dX9_looks_0 rfl (lv_at hl 1 rfl) ?_
  refine s_callS (As := [.int (0 : Int32)]) (rest := []) S hX G (k_X9_loadAt_0 l E) (va_cwS (bytes := cX9_loadAt) (maxL := 1) (ret := (some .int)) 1 S.2.2.2.2 gX9_looks_X9_loadAt rfl rfl rfl (by decide +kernel) ⟨Nat.le_of_ble_eq_true rfl, Nat.le_of_ble_eq_true rfl⟩) rfl hl.1 rfl (Nat.le_of_ble_eq_true rfl) ⟨Nat.zero_le _, Nat.zero_le _⟩ dX9_looks_1 (fun v I1 L1 H locs hR G => ?_)
  obtain ⟨hv, hI, hL⟩ := hR
  subst hv
  have G : GS E I L sg H locs := G.same hI hL
  refine W.eq (g2 := F0 mg 4 ls [.int (40 : Int32)]) rfl ?_
  refine lv_istore_n (lv' := [(2, .int (40 : Int32)), (0, .ref (E.2.2.2 161)), (1, .int (0 : Int32))]) S.1 S.2.1 dX9_looks_4 rfl hl (by decide) rfl (fun ls hl => ?_)
  refine lv_aload_n S.1 S.2.1 dX9_looks_5 rfl (lv_at hl 1 rfl) ?_
  refine s_get S hX G (i := 161) (kd := 9) (a := (I 161)) (v := .ref (E.2.2.2 162)) (C := RX9) (T := TX9) (N := 13) 0 (rfl : sh 161 = 9) rfl rfl rfl (by decide) rfl (fun _ h => (List.mem_cons_of_mem _ (List.mem_append_right _ h))) (by decide) (List.mem_of_getElem? (i := 1) rfl) (fun _ h => h) dX9_looks_6 ?_
  refine lv_iload_n S.1 S.2.1 dX9_looks_9 rfl (lv_at hl 0 rfl) ?_
  refine lv_bipush (v := (6 : Int32)) S.1 S.2.1 dX9_looks_10 (by decide) ?_
  refine s_iadd (v := (46 : Int32)) S dX9_looks_12 (by decide) ?_
  refine s_iald S hX G (i := 162) (kd := 284) (n := 270) (a := d) (x := (d 46)) (rfl : sh 162 = 284) e_d rfl (by decide) (by unfold vp_in; decide) (congrArg d (by decide)) dX9_looks_13 ?_
  refine lv_iconst (v := (1 : Int32)) S.1 S.2.1 dX9_looks_14 (by decide) ?_
  refine lv_icmp_ne (tgt := 97) S.1 S.2.1 dX9_looks_15 (by decide) (fun c_1 => ?_) (fun c_1 => ?_)
  · refine s_vret S G hr hlk dX9_looks_97 ?_
    exact ⟨rfl, (st_eq1 (Eq.trans e_d (show d = (lkF d 40) by simp [lkF, c_1])) (fun _ g0 => rfl)), rfl⟩
  · refine lv_aload_n S.1 S.2.1 dX9_looks_18 rfl (lv_at hl 1 rfl) ?_
    refine s_get S hX G (i := 161) (kd := 9) (a := (I 161)) (v := .ref (E.2.2.2 162)) (C := RX9) (T := TX9) (N := 13) 0 (rfl : sh 161 = 9) rfl rfl rfl (by decide) rfl (fun _ h => (List.mem_cons_of_mem _ (List.mem_append_right _ h))) (by decide) (List.mem_of_getElem? (i := 1) rfl) (fun _ h => h) dX9_looks_19 ?_
    refine lv_iload_n S.1 S.2.1 dX9_looks_22 rfl (lv_at hl 0 rfl) ?_
    refine lv_bipush (v := (8 : Int32)) S.1 S.2.1 dX9_looks_23 (by decide) ?_
    refine s_iadd (v := (48 : Int32)) S dX9_looks_25 (by decide) ?_
    refine s_iald S hX G (i := 162) (kd := 284) (n := 270) (a := d) (x := (d 48)) (rfl : sh 162 = 284) e_d rfl (by decide) (by unfold vp_in; decide) (congrArg d (by decide)) dX9_looks_26 ?_
    refine lv_if_ne (tgt := 97) S.1 S.2.1 dX9_looks_27 (by decide) (fun c_2 => ?_) (fun c_2 => ?_)
    · refine s_vret S G hr hlk dX9_looks_97 ?_
      exact ⟨rfl, (st_eq1 (Eq.trans e_d (show d = (lkF d 40) by simp [lkF, c_1, c_2])) (fun _ g0 => rfl)), rfl⟩
    · refine lv_aload_n S.1 S.2.1 dX9_looks_30 rfl (lv_at hl 1 rfl) ?_
      refine s_get S hX G (i := 161) (kd := 9) (a := (I 161)) (v := .ref (E.2.2.2 162)) (C := RX9) (T := TX9) (N := 13) 0 (rfl : sh 161 = 9) rfl rfl rfl (by decide) rfl (fun _ h => (List.mem_cons_of_mem _ (List.mem_append_right _ h))) (by decide) (List.mem_of_getElem? (i := 1) rfl) (fun _ h => h) dX9_looks_31 ?_
      refine lv_iload_n S.1 S.2.1 dX9_looks_34 rfl (lv_at hl 0 rfl) ?_
      refine lv_bipush (v := (7 : Int32)) S.1 S.2.1 dX9_looks_35 (by decide) ?_
      refine s_iadd (v := (47 : Int32)) S dX9_looks_37 (by decide) ?_
      refine lv_aload_n S.1 S.2.1 dX9_looks_38 rfl (lv_at hl 1 rfl) ?_
      refine lv_iload_n S.1 S.2.1 dX9_looks_39 rfl (lv_at hl 2 rfl) ?_
      refine s_callV (C := RX9) (As := [.int (0 : Int32)]) (rest := [.int (47 : Int32), .ref (E.2.2.2 162)]) (i := 161) (kd := 9) S hX G (k_X9_sizeOf_0 l E d e_d) (cwV (bytes := cX9_sizeOf) (maxL := 3) (ret := (some .int)) 1 S.2.2.2.2 gX9_looks_X9_sizeOf rfl rfl rfl (by decide +kernel) ⟨Nat.le_of_ble_eq_true rfl, Nat.le_of_ble_eq_true rfl⟩) (rfl : sh 161 = 9) rfl rfl rfl (by decide) rfl hl.1 rfl (Nat.le_of_ble_eq_true rfl) ⟨Nat.zero_le _, Nat.zero_le _⟩ dX9_looks_40 (fun v I1 L1 H locs hR G => ?_)
      obtain ⟨hv, hI, hL⟩ := hR
      subst hv
      have G : GS E I L sg H locs := G.same hI hL
      refine W.eq (g2 := F0 mg 43 ls [.int (absM (d 44)), .int (47 : Int32), .ref (E.2.2.2 162)]) rfl ?_
      refine lv_topi (fun y_3 ey_3 => ?_)
      refine lv_aload_n S.1 S.2.1 dX9_looks_43 rfl (lv_at hl 1 rfl) ?_
      refine s_get S hX G (i := 161) (kd := 9) (a := (I 161)) (v := .ref (E.2.2.2 162)) (C := RX9) (T := TX9) (N := 13) 0 (rfl : sh 161 = 9) rfl rfl rfl (by decide) rfl (fun _ h => (List.mem_cons_of_mem _ (List.mem_append_right _ h))) (by decide) (List.mem_of_getElem? (i := 1) rfl) (fun _ h => h) dX9_looks_44 ?_
      refine lv_iload_n S.1 S.2.1 dX9_looks_47 rfl (lv_at hl 0 rfl) ?_
      refine lv_iconst (v := (2 : Int32)) S.1 S.2.1 dX9_looks_48 (by decide) ?_
      refine s_iadd (v := (42 : Int32)) S dX9_looks_49 (by decide) ?_
      refine s_iald S hX G (i := 162) (kd := 284) (n := 270) (a := d) (x := (d 42)) (rfl : sh 162 = 284) e_d rfl (by decide) (by unfold vp_in; decide) (congrArg d (by decide)) dX9_looks_50 ?_
      refine lv_icmp_lt (tgt := 58) S.1 S.2.1 dX9_looks_51 (by decide) (fun c_4 => ?_) (fun c_4 => ?_)
      · refine lv_aload_n S.1 S.2.1 dX9_looks_58 rfl (lv_at hl 1 rfl) ?_
        refine lv_iload_n S.1 S.2.1 dX9_looks_59 rfl (lv_at hl 2 rfl) ?_
        refine s_callV (C := RX9) (As := [.int (0 : Int32)]) (rest := [.int (47 : Int32), .ref (E.2.2.2 162)]) (i := 161) (kd := 9) S hX G (k_X9_sizeOf_0 l E d e_d) (cwV (bytes := cX9_sizeOf) (maxL := 3) (ret := (some .int)) 1 S.2.2.2.2 gX9_looks_X9_sizeOf rfl rfl rfl (by decide +kernel) ⟨Nat.le_of_ble_eq_true rfl, Nat.le_of_ble_eq_true rfl⟩) (rfl : sh 161 = 9) rfl rfl rfl (by decide) rfl hl.1 rfl (Nat.le_of_ble_eq_true rfl) ⟨Nat.zero_le _, Nat.zero_le _⟩ dX9_looks_60 (fun v I1 L1 H locs hR G => ?_)
        obtain ⟨hv, hI, hL⟩ := hR
        subst hv
        have G : GS E I L sg H locs := G.same hI hL
        refine W.eq (g2 := F0 mg 63 ls [.int (absM (d 44)), .int (47 : Int32), .ref (E.2.2.2 162)]) rfl ?_
        refine lv_topi (fun y_5 ey_5 => ?_)
        refine lv_aload_n S.1 S.2.1 dX9_looks_63 rfl (lv_at hl 1 rfl) ?_
        refine s_get S hX G (i := 161) (kd := 9) (a := (I 161)) (v := .ref (E.2.2.2 162)) (C := RX9) (T := TX9) (N := 13) 0 (rfl : sh 161 = 9) rfl rfl rfl (by decide) rfl (fun _ h => (List.mem_cons_of_mem _ (List.mem_append_right _ h))) (by decide) (List.mem_of_getElem? (i := 1) rfl) (fun _ h => h) dX9_looks_64 ?_
        refine lv_iload_n S.1 S.2.1 dX9_looks_67 rfl (lv_at hl 0 rfl) ?_
        refine lv_iconst (v := (2 : Int32)) S.1 S.2.1 dX9_looks_68 (by decide) ?_
        refine s_iadd (v := (42 : Int32)) S dX9_looks_69 (by decide) ?_
        refine s_iald S hX G (i := 162) (kd := 284) (n := 270) (a := d) (x := (d 42)) (rfl : sh 162 = 284) e_d rfl (by decide) (by unfold vp_in; decide) (congrArg d (by decide)) dX9_looks_70 ?_
        refine lv_aload_n S.1 S.2.1 dX9_looks_71 rfl (lv_at hl 1 rfl) ?_
        refine s_get S hX G (i := 161) (kd := 9) (a := (I 161)) (v := .ref (E.2.2.2 162)) (C := RX9) (T := TX9) (N := 13) 0 (rfl : sh 161 = 9) rfl rfl rfl (by decide) rfl (fun _ h => (List.mem_cons_of_mem _ (List.mem_append_right _ h))) (by decide) (List.mem_of_getElem? (i := 1) rfl) (fun _ h => h) dX9_looks_72 ?_
        refine lv_iload_n S.1 S.2.1 dX9_looks_75 rfl (lv_at hl 0 rfl) ?_
        refine lv_iconst (v := (3 : Int32)) S.1 S.2.1 dX9_looks_76 (by decide) ?_
        refine s_iadd (v := (43 : Int32)) S dX9_looks_77 (by decide) ?_
        refine s_iald S hX G (i := 162) (kd := 284) (n := 270) (a := d) (x := (d 43)) (rfl : sh 162 = 284) e_d rfl (by decide) (by unfold vp_in; decide) (congrArg d (by decide)) dX9_looks_78 ?_
        refine s_isub (v := ((d 42) - (d 43))) S dX9_looks_79 rfl ?_
        refine lv_icmp_gt (tgt := 87) S.1 S.2.1 dX9_looks_80 (by decide) (fun c_6 => ?_) (fun c_6 => ?_)
        · refine lv_aload_n S.1 S.2.1 dX9_looks_87 rfl (lv_at hl 1 rfl) ?_
          refine s_get S hX G (i := 161) (kd := 9) (a := (I 161)) (v := .ref (E.2.2.2 162)) (C := RX9) (T := TX9) (N := 13) 0 (rfl : sh 161 = 9) rfl rfl rfl (by decide) rfl (fun _ h => (List.mem_cons_of_mem _ (List.mem_append_right _ h))) (by decide) (List.mem_of_getElem? (i := 1) rfl) (fun _ h => h) dX9_looks_88 ?_
          refine lv_iload_n S.1 S.2.1 dX9_looks_91 rfl (lv_at hl 0 rfl) ?_
          refine lv_bipush (v := (7 : Int32)) S.1 S.2.1 dX9_looks_92 (by decide) ?_
          refine s_iadd (v := (47 : Int32)) S dX9_looks_94 (by decide) ?_
          refine s_iald S hX G (i := 162) (kd := 284) (n := 270) (a := d) (x := (d 47)) (rfl : sh 162 = 284) e_d rfl (by decide) (by unfold vp_in; decide) (congrArg d (by decide)) dX9_looks_95 ?_
          refine s_iast S hX G (i := 162) (kd := 284) (n := 270) (jn := 47) (a := d) (I' := (up I 162 (upd d 47 (d 47)))) (rfl : sh 162 = 284) e_d (fun _ => rfl) (by decide) (by unfold vp_in; decide) (by decide) rfl dX9_looks_96 (fun H locs G => ?_)
          refine s_vret S G hr hlk dX9_looks_97 ?_
          exact ⟨rfl, (st_eq1 (Eq.trans up_eq (show (upd d 47 (d 47)) = (lkF d 40) by subst ey_5 ey_3; simp [lkF, c_1, c_2, c_4, c_6])) (fun _ g0 => (up_ne g0))), rfl⟩
        · refine lv_iconst (v := (0 : Int32)) S.1 S.2.1 dX9_looks_83 (by decide) ?_
          refine lv_goto (tgt := 96) S.1 S.2.1 dX9_looks_84 (by decide) ?_
          refine s_iast S hX G (i := 162) (kd := 284) (n := 270) (jn := 47) (a := d) (I' := (up I 162 (upd d 47 (0 : Int32)))) (rfl : sh 162 = 284) e_d (fun _ => rfl) (by decide) (by unfold vp_in; decide) (by decide) rfl dX9_looks_96 (fun H locs G => ?_)
          refine s_vret S G hr hlk dX9_looks_97 ?_
          exact ⟨rfl, (st_eq1 (Eq.trans up_eq (show (upd d 47 (0 : Int32)) = (lkF d 40) by subst ey_5 ey_3; simp [lkF, c_1, c_2, c_4, c_6])) (fun _ g0 => (up_ne g0))), rfl⟩
      · refine lv_iconst (v := (1 : Int32)) S.1 S.2.1 dX9_looks_54 (by decide) ?_
        refine lv_goto (tgt := 96) S.1 S.2.1 dX9_looks_55 (by decide) ?_
        refine s_iast S hX G (i := 162) (kd := 284) (n := 270) (jn := 47) (a := d) (I' := (up I 162 (upd d 47 (1 : Int32)))) (rfl : sh 162 = 284) e_d (fun _ => rfl) (by decide) (by unfold vp_in; decide) (by decide) rfl dX9_looks_96 (fun H locs G => ?_)
        refine s_vret S G hr hlk dX9_looks_97 ?_
        exact ⟨rfl, (st_eq1 (Eq.trans up_eq (show (upd d 47 (1 : Int32)) = (lkF d 40) by subst ey_3; simp [lkF, c_1, c_2, c_4])) (fun _ g0 => (up_ne g0))), rfl⟩
set_option maxHeartbeats 4000000 in
set_option maxRecDepth 100000 in
theorem k_X9_isSeen_0_0 (l : Launch) (E : Ev) {I : SI} {L : SL} (d : Nat → Int32) (e_d : I (162) = d) : CS l yX9_isSeen wsX9_isSeen ({ frames := 2, cells := 0, slots := 0, locals := 42 }) E [.ref (E.2.2.2 161), .int (0 : Int32), .int (0 : Int32)] I L (fun vv I' L' => vv = some (.int (if d 48 = 0 ∧ ¬ absM (d 44) < d 3 then 1 else 0)) ∧ I' = I ∧ L' = L) := by
  refine CS.of (cc := cX9_isSeen) (maxL := 4) (ret := (some .boolean)) (by decide) rfl (Nat.le_of_ble_eq_true rfl) ?_
  intro pg en sg mg below meth cg ls S hr hlk hX G hl
  have S : CallFix pg mg cg cX9_isSeen 4 sg _ wsX9_isSeen RX9 := S
  have hl : lv_has ls 4 [(0, .ref (E.2.2.2 161)), (1, .int (0 : Int32)), (2, .int (0 : Int32))] := hl
  refine lv_iload_n S.1 S.2.1 dX9_isSeen_0 rfl (lv_at hl 1 rfl) ?_
  refine s_callS (As := [.int (0 : Int32)]) (rest := []) S hX G (k_X9_loadAt_0 l E) (va_cwS (bytes := cX9_loadAt) (maxL := 1) (ret := (some .int)) 1 S.2.2.2.2 gX9_isSeen_X9_loadAt rfl rfl rfl (by decide +kernel) ⟨Nat.le_of_ble_eq_true rfl, Nat.le_of_ble_eq_true rfl⟩) rfl hl.1 rfl (Nat.le_of_ble_eq_true rfl) ⟨Nat.zero_le _, Nat.zero_le _⟩ dX9_isSeen_1 (fun v I1 L1 H locs hR G => ?_)
  obtain ⟨hv, hI, hL⟩ := hR
  subst hv
  have G : GS E I L sg H locs := G.same hI hL
  refine W.eq (g2 := F0 mg 4 ls [.int (40 : Int32)]) rfl ?_
  refine lv_istore_n (lv' := [(3, .int (40 : Int32)), (0, .ref (E.2.2.2 161)), (1, .int (0 : Int32)), (2, .int (0 : Int32))]) S.1 S.2.1 dX9_isSeen_4 rfl hl (by decide) rfl (fun ls hl => ?_)
  refine lv_iload_n S.1 S.2.1 dX9_isSeen_5 rfl (lv_at hl 3 rfl) ?_
  refine lv_lookup (off := 26) (tgt := 32) S.1 S.2.1 dX9_isSeen_6 (by decide) (by decide) (by decide) ?_
  refine lv_aload_n S.1 S.2.1 dX9_isSeen_32 rfl (lv_at hl 1 rfl) ?_
  refine s_get S hX G (i := 161) (kd := 9) (a := (I 161)) (v := .ref (E.2.2.2 162)) (C := RX9) (T := TX9) (N := 13) 0 (rfl : sh 161 = 9) rfl rfl rfl (by decide) rfl (fun _ h => (List.mem_cons_of_mem _ (List.mem_append_right _ h))) (by decide) (List.mem_of_getElem? (i := 1) rfl) (fun _ h => h) dX9_isSeen_33 ?_
  refine lv_iload_n S.1 S.2.1 dX9_isSeen_36 rfl (lv_at hl 0 rfl) ?_
  refine lv_bipush (v := (8 : Int32)) S.1 S.2.1 dX9_isSeen_37 (by decide) ?_
  refine s_iadd (v := (48 : Int32)) S dX9_isSeen_39 (by decide) ?_
  refine s_iald S hX G (i := 162) (kd := 284) (n := 270) (a := d) (x := (d 48)) (rfl : sh 162 = 284) e_d rfl (by decide) (by unfold vp_in; decide) (congrArg d (by decide)) dX9_isSeen_40 ?_
  refine lv_if_ne (tgt := 62) S.1 S.2.1 dX9_isSeen_41 (by decide) (fun c_1 => ?_) (fun c_1 => ?_)
  · refine lv_iconst (v := (0 : Int32)) S.1 S.2.1 dX9_isSeen_62 (by decide) ?_
    refine s_zret (x := (0 : Int32)) S G hr hlk dX9_isSeen_63 (Or.inl rfl) ?_
    exact ⟨(congrArg (fun q : Int32 => some (Value.int q)) (show (0 : Int32) = (if d 48 = 0 ∧ ¬ absM (d 44) < d 3 then 1 else 0) by first | (simp [c_1]; done) | (clear S hX G hl; grind []))), rfl, rfl⟩
  · refine lv_aload_n S.1 S.2.1 dX9_isSeen_44 rfl (lv_at hl 1 rfl) ?_
    refine lv_iload_n S.1 S.2.1 dX9_isSeen_45 rfl (lv_at hl 2 rfl) ?_
    refine s_callV (C := RX9) (As := [.int (0 : Int32)]) (rest := []) (i := 161) (kd := 9) S hX G (k_X9_sizeOf_0 l E d e_d) (cwV (bytes := cX9_sizeOf) (maxL := 3) (ret := (some .int)) 1 S.2.2.2.2 gX9_isSeen_X9_sizeOf rfl rfl rfl (by decide +kernel) ⟨Nat.le_of_ble_eq_true rfl, Nat.le_of_ble_eq_true rfl⟩) (rfl : sh 161 = 9) rfl rfl rfl (by decide) rfl hl.1 rfl (Nat.le_of_ble_eq_true rfl) ⟨Nat.zero_le _, Nat.zero_le _⟩ dX9_isSeen_46 (fun v I1 L1 H locs hR G => ?_)
    obtain ⟨hv, hI, hL⟩ := hR
    subst hv
    have G : GS E I L sg H locs := G.same hI hL
    refine W.eq (g2 := F0 mg 49 ls [.int (absM (d 44))]) rfl ?_
    refine lv_topi (fun y_2 ey_2 => ?_)
    refine lv_aload_n S.1 S.2.1 dX9_isSeen_49 rfl (lv_at hl 1 rfl) ?_
    refine s_get S hX G (i := 161) (kd := 9) (a := (I 161)) (v := .ref (E.2.2.2 162)) (C := RX9) (T := TX9) (N := 13) 0 (rfl : sh 161 = 9) rfl rfl rfl (by decide) rfl (fun _ h => (List.mem_cons_of_mem _ (List.mem_append_right _ h))) (by decide) (List.mem_of_getElem? (i := 1) rfl) (fun _ h => h) dX9_isSeen_50 ?_
    refine lv_iconst (v := (3 : Int32)) S.1 S.2.1 dX9_isSeen_53 (by decide) ?_
    refine s_iald S hX G (i := 162) (kd := 284) (n := 270) (a := d) (x := (d 3)) (rfl : sh 162 = 284) e_d rfl (by decide) (by unfold vp_in; decide) (congrArg d (by decide)) dX9_isSeen_54 ?_
    refine lv_icmp_lt (tgt := 62) S.1 S.2.1 dX9_isSeen_55 (by decide) (fun c_3 => ?_) (fun c_3 => ?_)
    · refine lv_iconst (v := (0 : Int32)) S.1 S.2.1 dX9_isSeen_62 (by decide) ?_
      refine s_zret (x := (0 : Int32)) S G hr hlk dX9_isSeen_63 (Or.inl rfl) ?_
      exact ⟨(congrArg (fun q : Int32 => some (Value.int q)) (show (0 : Int32) = (if d 48 = 0 ∧ ¬ absM (d 44) < d 3 then 1 else 0) by subst ey_2; (first | (simp [c_1, c_3]; done) | (clear S hX G hl; grind [])))), rfl, rfl⟩
    · refine lv_iconst (v := (1 : Int32)) S.1 S.2.1 dX9_isSeen_58 (by decide) ?_
      refine lv_goto (tgt := 63) S.1 S.2.1 dX9_isSeen_59 (by decide) ?_
      refine s_zret (x := (1 : Int32)) S G hr hlk dX9_isSeen_63 (Or.inr rfl) ?_
      exact ⟨(congrArg (fun q : Int32 => some (Value.int q)) (show (1 : Int32) = (if d 48 = 0 ∧ ¬ absM (d 44) < d 3 then 1 else 0) by subst ey_2; (first | (simp [c_1, c_3]; done) | (clear S hX G hl; grind [])))), rfl, rfl⟩
set_option maxHeartbeats 4000000 in
set_option maxRecDepth 100000 in
theorem k_X9_isSeen_0_1 (l : Launch) (E : Ev) {I : SI} {L : SL} (d : Nat → Int32) (e_d : I (162) = d) : CS l yX9_isSeen wsX9_isSeen ({ frames := 2, cells := 0, slots := 0, locals := 42 }) E [.ref (E.2.2.2 161), .int (0 : Int32), .int (1 : Int32)] I L (fun vv I' L' => vv = some (.int (if ¬ d 50 < d 4 ∧ ¬ d 40 ≤ absM (d 44) then 1 else 0)) ∧ I' = I ∧ L' = L) := by
  refine CS.of (cc := cX9_isSeen) (maxL := 4) (ret := (some .boolean)) (by decide) rfl (Nat.le_of_ble_eq_true rfl) ?_
  intro pg en sg mg below meth cg ls S hr hlk hX G hl
  have S : CallFix pg mg cg cX9_isSeen 4 sg _ wsX9_isSeen RX9 := S
  have hl : lv_has ls 4 [(0, .ref (E.2.2.2 161)), (1, .int (0 : Int32)), (2, .int (1 : Int32))] := hl
  refine lv_iload_n S.1 S.2.1 dX9_isSeen_0 rfl (lv_at hl 1 rfl) ?_
  refine s_callS (As := [.int (0 : Int32)]) (rest := []) S hX G (k_X9_loadAt_0 l E) (va_cwS (bytes := cX9_loadAt) (maxL := 1) (ret := (some .int)) 1 S.2.2.2.2 gX9_isSeen_X9_loadAt rfl rfl rfl (by decide +kernel) ⟨Nat.le_of_ble_eq_true rfl, Nat.le_of_ble_eq_true rfl⟩) rfl hl.1 rfl (Nat.le_of_ble_eq_true rfl) ⟨Nat.zero_le _, Nat.zero_le _⟩ dX9_isSeen_1 (fun v I1 L1 H locs hR G => ?_)
  obtain ⟨hv, hI, hL⟩ := hR
  subst hv
  have G : GS E I L sg H locs := G.same hI hL
  refine W.eq (g2 := F0 mg 4 ls [.int (40 : Int32)]) rfl ?_
  refine lv_istore_n (lv' := [(3, .int (40 : Int32)), (0, .ref (E.2.2.2 161)), (1, .int (0 : Int32)), (2, .int (1 : Int32))]) S.1 S.2.1 dX9_isSeen_4 rfl hl (by decide) rfl (fun ls hl => ?_)
  refine lv_iload_n S.1 S.2.1 dX9_isSeen_5 rfl (lv_at hl 3 rfl) ?_
  refine lv_lookup (off := 58) (tgt := 64) S.1 S.2.1 dX9_isSeen_6 (by decide) (by decide) (by decide) ?_
  refine lv_aload_n S.1 S.2.1 dX9_isSeen_64 rfl (lv_at hl 1 rfl) ?_
  refine s_get S hX G (i := 161) (kd := 9) (a := (I 161)) (v := .ref (E.2.2.2 162)) (C := RX9) (T := TX9) (N := 13) 0 (rfl : sh 161 = 9) rfl rfl rfl (by decide) rfl (fun _ h => (List.mem_cons_of_mem _ (List.mem_append_right _ h))) (by decide) (List.mem_of_getElem? (i := 1) rfl) (fun _ h => h) dX9_isSeen_65 ?_
  refine lv_iload_n S.1 S.2.1 dX9_isSeen_68 rfl (lv_at hl 0 rfl) ?_
  refine lv_bipush (v := (10 : Int32)) S.1 S.2.1 dX9_isSeen_69 (by decide) ?_
  refine s_iadd (v := (50 : Int32)) S dX9_isSeen_71 (by decide) ?_
  refine s_iald S hX G (i := 162) (kd := 284) (n := 270) (a := d) (x := (d 50)) (rfl : sh 162 = 284) e_d rfl (by decide) (by unfold vp_in; decide) (congrArg d (by decide)) dX9_isSeen_72 ?_
  refine lv_aload_n S.1 S.2.1 dX9_isSeen_73 rfl (lv_at hl 1 rfl) ?_
  refine s_get S hX G (i := 161) (kd := 9) (a := (I 161)) (v := .ref (E.2.2.2 162)) (C := RX9) (T := TX9) (N := 13) 0 (rfl : sh 161 = 9) rfl rfl rfl (by decide) rfl (fun _ h => (List.mem_cons_of_mem _ (List.mem_append_right _ h))) (by decide) (List.mem_of_getElem? (i := 1) rfl) (fun _ h => h) dX9_isSeen_74 ?_
  refine lv_iconst (v := (4 : Int32)) S.1 S.2.1 dX9_isSeen_77 (by decide) ?_
  refine s_iald S hX G (i := 162) (kd := 284) (n := 270) (a := d) (x := (d 4)) (rfl : sh 162 = 284) e_d rfl (by decide) (by unfold vp_in; decide) (congrArg d (by decide)) dX9_isSeen_78 ?_
  refine lv_icmp_lt (tgt := 102) S.1 S.2.1 dX9_isSeen_79 (by decide) (fun c_1 => ?_) (fun c_1 => ?_)
  · refine lv_iconst (v := (0 : Int32)) S.1 S.2.1 dX9_isSeen_102 (by decide) ?_
    refine s_zret (x := (0 : Int32)) S G hr hlk dX9_isSeen_103 (Or.inl rfl) ?_
    exact ⟨(congrArg (fun q : Int32 => some (Value.int q)) (show (0 : Int32) = (if ¬ d 50 < d 4 ∧ ¬ d 40 ≤ absM (d 44) then 1 else 0) by first | (simp [c_1]; done) | (clear S hX G hl; grind []))), rfl, rfl⟩
  · refine lv_aload_n S.1 S.2.1 dX9_isSeen_82 rfl (lv_at hl 1 rfl) ?_
    refine lv_iload_n S.1 S.2.1 dX9_isSeen_83 rfl (lv_at hl 2 rfl) ?_
    refine s_callV (C := RX9) (As := [.int (0 : Int32)]) (rest := []) (i := 161) (kd := 9) S hX G (k_X9_sizeOf_0 l E d e_d) (cwV (bytes := cX9_sizeOf) (maxL := 3) (ret := (some .int)) 1 S.2.2.2.2 gX9_isSeen_X9_sizeOf rfl rfl rfl (by decide +kernel) ⟨Nat.le_of_ble_eq_true rfl, Nat.le_of_ble_eq_true rfl⟩) (rfl : sh 161 = 9) rfl rfl rfl (by decide) rfl hl.1 rfl (Nat.le_of_ble_eq_true rfl) ⟨Nat.zero_le _, Nat.zero_le _⟩ dX9_isSeen_84 (fun v I1 L1 H locs hR G => ?_)
    obtain ⟨hv, hI, hL⟩ := hR
    subst hv
    have G : GS E I L sg H locs := G.same hI hL
    refine W.eq (g2 := F0 mg 87 ls [.int (absM (d 44))]) rfl ?_
    refine lv_topi (fun y_2 ey_2 => ?_)
    refine lv_aload_n S.1 S.2.1 dX9_isSeen_87 rfl (lv_at hl 1 rfl) ?_
    refine s_get S hX G (i := 161) (kd := 9) (a := (I 161)) (v := .ref (E.2.2.2 162)) (C := RX9) (T := TX9) (N := 13) 0 (rfl : sh 161 = 9) rfl rfl rfl (by decide) rfl (fun _ h => (List.mem_cons_of_mem _ (List.mem_append_right _ h))) (by decide) (List.mem_of_getElem? (i := 1) rfl) (fun _ h => h) dX9_isSeen_88 ?_
    refine lv_iload_n S.1 S.2.1 dX9_isSeen_91 rfl (lv_at hl 0 rfl) ?_
    refine lv_iconst (v := (0 : Int32)) S.1 S.2.1 dX9_isSeen_92 (by decide) ?_
    refine s_iadd (v := (40 : Int32)) S dX9_isSeen_93 (by decide) ?_
    refine s_iald S hX G (i := 162) (kd := 284) (n := 270) (a := d) (x := (d 40)) (rfl : sh 162 = 284) e_d rfl (by decide) (by unfold vp_in; decide) (congrArg d (by decide)) dX9_isSeen_94 ?_
    refine lv_icmp_ge (tgt := 102) S.1 S.2.1 dX9_isSeen_95 (by decide) (fun c_3 => ?_) (fun c_3 => ?_)
    · refine lv_iconst (v := (0 : Int32)) S.1 S.2.1 dX9_isSeen_102 (by decide) ?_
      refine s_zret (x := (0 : Int32)) S G hr hlk dX9_isSeen_103 (Or.inl rfl) ?_
      exact ⟨(congrArg (fun q : Int32 => some (Value.int q)) (show (0 : Int32) = (if ¬ d 50 < d 4 ∧ ¬ d 40 ≤ absM (d 44) then 1 else 0) by subst ey_2; (first | (simp [c_1, c_3]; done) | (clear S hX G hl; grind [])))), rfl, rfl⟩
    · refine lv_iconst (v := (1 : Int32)) S.1 S.2.1 dX9_isSeen_98 (by decide) ?_
      refine lv_goto (tgt := 103) S.1 S.2.1 dX9_isSeen_99 (by decide) ?_
      refine s_zret (x := (1 : Int32)) S G hr hlk dX9_isSeen_103 (Or.inr rfl) ?_
      exact ⟨(congrArg (fun q : Int32 => some (Value.int q)) (show (1 : Int32) = (if ¬ d 50 < d 4 ∧ ¬ d 40 ≤ absM (d 44) then 1 else 0) by subst ey_2; (first | (simp [c_1, c_3]; done) | (clear S hX G hl; grind [])))), rfl, rfl⟩
set_option maxHeartbeats 4000000 in
set_option maxRecDepth 100000 in
theorem k_X9_isSeen_0_2 (l : Launch) (E : Ev) {I : SI} {L : SL} (d : Nat → Int32) (e_d : I (162) = d) : CS l yX9_isSeen wsX9_isSeen ({ frames := 1, cells := 0, slots := 0, locals := 20 }) E [.ref (E.2.2.2 161), .int (0 : Int32), .int (2 : Int32)] I L (fun vv I' L' => vv = some (.int (if ¬ d 45 < d 5 then 1 else 0)) ∧ I' = I ∧ L' = L) := by
  refine CS.of (cc := cX9_isSeen) (maxL := 4) (ret := (some .boolean)) (by decide) rfl (Nat.le_of_ble_eq_true rfl) ?_
  intro pg en sg mg below meth cg ls S hr hlk hX G hl
  have S : CallFix pg mg cg cX9_isSeen 4 sg _ wsX9_isSeen RX9 := S
  have hl : lv_has ls 4 [(0, .ref (E.2.2.2 161)), (1, .int (0 : Int32)), (2, .int (2 : Int32))] := hl
  refine lv_iload_n S.1 S.2.1 dX9_isSeen_0 rfl (lv_at hl 1 rfl) ?_
  refine s_callS (As := [.int (0 : Int32)]) (rest := []) S hX G (k_X9_loadAt_0 l E) (va_cwS (bytes := cX9_loadAt) (maxL := 1) (ret := (some .int)) 1 S.2.2.2.2 gX9_isSeen_X9_loadAt rfl rfl rfl (by decide +kernel) ⟨Nat.le_of_ble_eq_true rfl, Nat.le_of_ble_eq_true rfl⟩) rfl hl.1 rfl (Nat.le_of_ble_eq_true rfl) ⟨Nat.zero_le _, Nat.zero_le _⟩ dX9_isSeen_1 (fun v I1 L1 H locs hR G => ?_)
  obtain ⟨hv, hI, hL⟩ := hR
  subst hv
  have G : GS E I L sg H locs := G.same hI hL
  refine W.eq (g2 := F0 mg 4 ls [.int (40 : Int32)]) rfl ?_
  refine lv_istore_n (lv' := [(3, .int (40 : Int32)), (0, .ref (E.2.2.2 161)), (1, .int (0 : Int32)), (2, .int (2 : Int32))]) S.1 S.2.1 dX9_isSeen_4 rfl hl (by decide) rfl (fun ls hl => ?_)
  refine lv_iload_n S.1 S.2.1 dX9_isSeen_5 rfl (lv_at hl 3 rfl) ?_
  refine lv_lookup (off := 98) (tgt := 104) S.1 S.2.1 dX9_isSeen_6 (by decide) (by decide) (by decide) ?_
  refine lv_aload_n S.1 S.2.1 dX9_isSeen_104 rfl (lv_at hl 1 rfl) ?_
  refine s_get S hX G (i := 161) (kd := 9) (a := (I 161)) (v := .ref (E.2.2.2 162)) (C := RX9) (T := TX9) (N := 13) 0 (rfl : sh 161 = 9) rfl rfl rfl (by decide) rfl (fun _ h => (List.mem_cons_of_mem _ (List.mem_append_right _ h))) (by decide) (List.mem_of_getElem? (i := 1) rfl) (fun _ h => h) dX9_isSeen_105 ?_
  refine lv_iload_n S.1 S.2.1 dX9_isSeen_108 rfl (lv_at hl 0 rfl) ?_
  refine lv_iconst (v := (5 : Int32)) S.1 S.2.1 dX9_isSeen_109 (by decide) ?_
  refine s_iadd (v := (45 : Int32)) S dX9_isSeen_110 (by decide) ?_
  refine s_iald S hX G (i := 162) (kd := 284) (n := 270) (a := d) (x := (d 45)) (rfl : sh 162 = 284) e_d rfl (by decide) (by unfold vp_in; decide) (congrArg d (by decide)) dX9_isSeen_111 ?_
  refine lv_aload_n S.1 S.2.1 dX9_isSeen_112 rfl (lv_at hl 1 rfl) ?_
  refine s_get S hX G (i := 161) (kd := 9) (a := (I 161)) (v := .ref (E.2.2.2 162)) (C := RX9) (T := TX9) (N := 13) 0 (rfl : sh 161 = 9) rfl rfl rfl (by decide) rfl (fun _ h => (List.mem_cons_of_mem _ (List.mem_append_right _ h))) (by decide) (List.mem_of_getElem? (i := 1) rfl) (fun _ h => h) dX9_isSeen_113 ?_
  refine lv_iconst (v := (5 : Int32)) S.1 S.2.1 dX9_isSeen_116 (by decide) ?_
  refine s_iald S hX G (i := 162) (kd := 284) (n := 270) (a := d) (x := (d 5)) (rfl : sh 162 = 284) e_d rfl (by decide) (by unfold vp_in; decide) (congrArg d (by decide)) dX9_isSeen_117 ?_
  refine lv_icmp_lt (tgt := 125) S.1 S.2.1 dX9_isSeen_118 (by decide) (fun c_1 => ?_) (fun c_1 => ?_)
  · refine lv_iconst (v := (0 : Int32)) S.1 S.2.1 dX9_isSeen_125 (by decide) ?_
    refine s_zret (x := (0 : Int32)) S G hr hlk dX9_isSeen_126 (Or.inl rfl) ?_
    exact ⟨(congrArg (fun q : Int32 => some (Value.int q)) (show (0 : Int32) = (if ¬ d 45 < d 5 then 1 else 0) by first | (simp [c_1]; done) | (clear S hX G hl; grind []))), rfl, rfl⟩
  · refine lv_iconst (v := (1 : Int32)) S.1 S.2.1 dX9_isSeen_121 (by decide) ?_
    refine lv_goto (tgt := 126) S.1 S.2.1 dX9_isSeen_122 (by decide) ?_
    refine s_zret (x := (1 : Int32)) S G hr hlk dX9_isSeen_126 (Or.inr rfl) ?_
    exact ⟨(congrArg (fun q : Int32 => some (Value.int q)) (show (1 : Int32) = (if ¬ d 45 < d 5 then 1 else 0) by first | (simp [c_1]; done) | (clear S hX G hl; grind []))), rfl, rfl⟩
set_option maxHeartbeats 4000000 in
set_option maxRecDepth 100000 in
theorem k_X9_flows_1 (l : Launch) (E : Ev) {I : SI} {L : SL} (d : Nat → Int32) (e_d : I (162) = d) : CS l yX9_flows wsX9_flows ({ frames := 1, cells := 0, slots := 0, locals := 21 }) E [.ref (E.2.2.2 161), .int (1 : Int32)] I L (fun vv I' L' => vv = none ∧ I' = (up I (162) (flF d 24 70)) ∧ L' = L) := by
  refine CS.of (cc := cX9_flows) (maxL := 7) (ret := none) (by decide) rfl (Nat.le_of_ble_eq_true rfl) ?_
  intro pg en sg mg below meth cg ls S hr hlk hX G hl
  have S : CallFix pg mg cg cX9_flows 7 sg _ wsX9_flows RX9 := S
  have hl : lv_has ls 7 [(0, .ref (E.2.2.2 161)), (1, .int (1 : Int32))] := hl
  refine lv_iload_n S.1 S.2.1 dX9_flows_0 rfl (lv_at hl 1 rfl) ?_
  refine s_callS (As := [.int (1 : Int32)]) (rest := []) S hX G (k_X9_loadAt_1 l E) (va_cwS (bytes := cX9_loadAt) (maxL := 1) (ret := (some .int)) 1 S.2.2.2.2 gX9_flows_X9_loadAt rfl rfl rfl (by decide +kernel) ⟨Nat.le_of_ble_eq_true rfl, Nat.le_of_ble_eq_true rfl⟩) rfl hl.1 rfl (Nat.le_of_ble_eq_true rfl) ⟨Nat.zero_le _, Nat.zero_le _⟩ dX9_flows_1 (fun v I1 L1 H locs hR G => ?_)
  obtain ⟨hv, hI, hL⟩ := hR
  subst hv
  have G : GS E I L sg H locs := G.same hI hL
  refine W.eq (g2 := F0 mg 4 ls [.int (70 : Int32)]) rfl ?_
  refine lv_istore_n (lv' := [(2, .int (70 : Int32)), (0, .ref (E.2.2.2 161)), (1, .int (1 : Int32))]) S.1 S.2.1 dX9_flows_4 rfl hl (by decide) rfl (fun ls hl => ?_)
  refine lv_aload_n S.1 S.2.1 dX9_flows_5 rfl (lv_at hl 1 rfl) ?_
  refine s_get S hX G (i := 161) (kd := 9) (a := (I 161)) (v := .ref (E.2.2.2 162)) (C := RX9) (T := TX9) (N := 13) 0 (rfl : sh 161 = 9) rfl rfl rfl (by decide) rfl (fun _ h => (List.mem_cons_of_mem _ (List.mem_append_right _ h))) (by decide) (List.mem_of_getElem? (i := 1) rfl) (fun _ h => h) dX9_flows_6 ?_
  refine lv_iconst (v := (2 : Int32)) S.1 S.2.1 dX9_flows_9 (by decide) ?_
  refine lv_iload_n S.1 S.2.1 dX9_flows_10 rfl (lv_at hl 2 rfl) ?_
  refine s_imul (v := (2 : Int32)) S dX9_flows_11 (by decide) ?_
  refine s_callS (As := [.int (2 : Int32)]) (rest := [.ref (E.2.2.2 162)]) S hX G (k_X9_legAt_2 l E) (va_cwS (bytes := cX9_legAt) (maxL := 1) (ret := (some .int)) 1 S.2.2.2.2 gX9_flows_X9_legAt rfl rfl rfl (by decide +kernel) ⟨Nat.le_of_ble_eq_true rfl, Nat.le_of_ble_eq_true rfl⟩) rfl hl.1 rfl (Nat.le_of_ble_eq_true rfl) ⟨Nat.zero_le _, Nat.zero_le _⟩ dX9_flows_12 (fun v I1 L1 H locs hR G => ?_)
  obtain ⟨hv, hI, hL⟩ := hR
  subst hv
  have G : GS E I L sg H locs := G.same hI hL
  refine W.eq (g2 := F0 mg 15 ls [.int (24 : Int32), .ref (E.2.2.2 162)]) rfl ?_
  refine lv_iconst (v := (1 : Int32)) S.1 S.2.1 dX9_flows_15 (by decide) ?_
  refine s_iadd (v := (25 : Int32)) S dX9_flows_16 (by decide) ?_
  refine s_iald S hX G (i := 162) (kd := 284) (n := 270) (a := d) (x := (d 25)) (rfl : sh 162 = 284) e_d rfl (by decide) (by unfold vp_in; decide) (congrArg d (by decide)) dX9_flows_17 ?_
  refine lv_istore_n (lv' := [(3, .int (d 25)), (2, .int (70 : Int32)), (0, .ref (E.2.2.2 161)), (1, .int (1 : Int32))]) S.1 S.2.1 dX9_flows_18 rfl hl (by decide) rfl (fun ls hl => ?_)
  refine lv_aload_n S.1 S.2.1 dX9_flows_19 rfl (lv_at hl 2 rfl) ?_
  refine s_get S hX G (i := 161) (kd := 9) (a := (I 161)) (v := .ref (E.2.2.2 162)) (C := RX9) (T := TX9) (N := 13) 0 (rfl : sh 161 = 9) rfl rfl rfl (by decide) rfl (fun _ h => (List.mem_cons_of_mem _ (List.mem_append_right _ h))) (by decide) (List.mem_of_getElem? (i := 1) rfl) (fun _ h => h) dX9_flows_20 ?_
  refine lv_iconst (v := (2 : Int32)) S.1 S.2.1 dX9_flows_23 (by decide) ?_
  refine lv_iload_n S.1 S.2.1 dX9_flows_24 rfl (lv_at hl 3 rfl) ?_
  refine s_imul (v := (2 : Int32)) S dX9_flows_25 (by decide) ?_
  refine lv_iconst (v := (1 : Int32)) S.1 S.2.1 dX9_flows_26 (by decide) ?_
  refine s_iadd (v := (3 : Int32)) S dX9_flows_27 (by decide) ?_
  refine s_callS (As := [.int (3 : Int32)]) (rest := [.ref (E.2.2.2 162)]) S hX G (k_X9_legAt_3 l E) (va_cwS (bytes := cX9_legAt) (maxL := 1) (ret := (some .int)) 1 S.2.2.2.2 gX9_flows_X9_legAt rfl rfl rfl (by decide +kernel) ⟨Nat.le_of_ble_eq_true rfl, Nat.le_of_ble_eq_true rfl⟩) rfl hl.1 rfl (Nat.le_of_ble_eq_true rfl) ⟨Nat.zero_le _, Nat.zero_le _⟩ dX9_flows_28 (fun v I1 L1 H locs hR G => ?_)
  obtain ⟨hv, hI, hL⟩ := hR
  subst hv
  have G : GS E I L sg H locs := G.same hI hL
  refine W.eq (g2 := F0 mg 31 ls [.int (32 : Int32), .ref (E.2.2.2 162)]) rfl ?_
  refine lv_iconst (v := (1 : Int32)) S.1 S.2.1 dX9_flows_31 (by decide) ?_
  refine s_iadd (v := (33 : Int32)) S dX9_flows_32 (by decide) ?_
  refine s_iald S hX G (i := 162) (kd := 284) (n := 270) (a := d) (x := (d 33)) (rfl : sh 162 = 284) e_d rfl (by decide) (by unfold vp_in; decide) (congrArg d (by decide)) dX9_flows_33 ?_
  refine lv_istore (lv' := [(4, .int (d 33)), (3, .int (d 25)), (2, .int (70 : Int32)), (0, .ref (E.2.2.2 161)), (1, .int (1 : Int32))]) S.1 S.2.1 dX9_flows_34 hl (by decide) rfl (fun ls hl => ?_)
  refine s_cut (α := Int32) (nL := 7) (E := E) (fun x I' L' => x = (mdrF d 24) ∧ I' = I ∧ L' = L) (fun x => [(4, .int (d 33)), (3, .int (d 25)), (2, .int (70 : Int32)), (0, .ref (E.2.2.2 161)), (1, .int (1 : Int32))]) 70 (fun x => [.int x]) (fun kJ_1 => ?_) (fun x I1 L1 H locs ls hP G hl => ?_)
  · refine lv_iload_n S.1 S.2.1 dX9_flows_36 rfl (lv_at hl 1 rfl) ?_
    refine lv_if_eq (tgt := 45) S.1 S.2.1 dX9_flows_37 (by decide) (fun c_2 => ?_) (fun c_2 => ?_)
    · refine lv_bipush (v := (9 : Int32)) S.1 S.2.1 dX9_flows_45 (by decide) ?_
      refine lv_goto (tgt := 70) S.1 S.2.1 dX9_flows_47 (by decide) ?_
      exact kJ_1 (9 : Int32) _ _ _ _ _ ⟨(show (9 : Int32) = (mdrF d 24) by first | (simp [mdrF, c_2]; done) | (clear S hX G hl; grind [mdrF])), rfl, rfl⟩ G (lv_sub hl [0, 1, 2, 3, 4] rfl)
    · refine lv_iload S.1 S.2.1 dX9_flows_40 (lv_at hl 0 rfl) ?_
      refine lv_if_ne (tgt := 50) S.1 S.2.1 dX9_flows_42 (by decide) (fun c_3 => ?_) (fun c_3 => ?_)
      · refine lv_iload_n S.1 S.2.1 dX9_flows_50 rfl (lv_at hl 1 rfl) ?_
        refine lv_iload S.1 S.2.1 dX9_flows_51 (lv_at hl 0 rfl) ?_
        refine lv_icmp_ne (tgt := 60) S.1 S.2.1 dX9_flows_53 (by decide) (fun c_4 => ?_) (fun c_4 => ?_)
        · refine lv_iload_n S.1 S.2.1 dX9_flows_60 rfl (lv_at hl 1 rfl) ?_
          refine lv_iconst (v := (1 : Int32)) S.1 S.2.1 dX9_flows_61 (by decide) ?_
          refine lv_icmp_ne (tgt := 69) S.1 S.2.1 dX9_flows_62 (by decide) (fun c_5 => ?_) (fun c_5 => ?_)
          · refine lv_iconst (v := (-1 : Int32)) S.1 S.2.1 dX9_flows_69 (by decide) ?_
            exact kJ_1 (-1 : Int32) _ _ _ _ _ ⟨(show (-1 : Int32) = (mdrF d 24) by first | (simp [mdrF, c_2, c_3, c_4, c_5]; done) | (clear S hX G hl; grind [mdrF])), rfl, rfl⟩ G (lv_sub hl [0, 1, 2, 3, 4] rfl)
          · refine lv_iconst (v := (1 : Int32)) S.1 S.2.1 dX9_flows_65 (by decide) ?_
            refine lv_goto (tgt := 70) S.1 S.2.1 dX9_flows_66 (by decide) ?_
            exact kJ_1 (1 : Int32) _ _ _ _ _ ⟨(show (1 : Int32) = (mdrF d 24) by first | (simp [mdrF, c_2, c_3, c_4, c_5]; done) | (clear S hX G hl; grind [mdrF])), rfl, rfl⟩ G (lv_sub hl [0, 1, 2, 3, 4] rfl)
        · refine lv_iconst (v := (0 : Int32)) S.1 S.2.1 dX9_flows_56 (by decide) ?_
          refine lv_goto (tgt := 70) S.1 S.2.1 dX9_flows_57 (by decide) ?_
          exact kJ_1 (0 : Int32) _ _ _ _ _ ⟨(show (0 : Int32) = (mdrF d 24) by first | (simp [mdrF, c_2, c_3, c_4]; done) | (clear S hX G hl; grind [mdrF])), rfl, rfl⟩ G (lv_sub hl [0, 1, 2, 3, 4] rfl)
      · refine lv_bipush (v := (9 : Int32)) S.1 S.2.1 dX9_flows_45 (by decide) ?_
        refine lv_goto (tgt := 70) S.1 S.2.1 dX9_flows_47 (by decide) ?_
        exact kJ_1 (9 : Int32) _ _ _ _ _ ⟨(show (9 : Int32) = (mdrF d 24) by first | (simp [mdrF, c_2, c_3]; done) | (clear S hX G hl; grind [mdrF])), rfl, rfl⟩ G (lv_sub hl [0, 1, 2, 3, 4] rfl)
  · obtain ⟨h0, hI, hL⟩ := hP
    have h0 : x = (mdrF d 24) := h0
    have hl : lv_has ls 7 [(4, .int (d 33)), (3, .int (d 25)), (2, .int (70 : Int32)), (0, .ref (E.2.2.2 161)), (1, .int (1 : Int32))] := hl
    obtain ⟨m_6, rfl⟩ : ∃ z, z = x := ⟨_, rfl⟩
    have em_6 : m_6 = (mdrF d 24) := h0
    have G : GS E I L sg H locs := G.same hI hL
    refine W.eq (g2 := F0 mg 70 ls [.int m_6]) rfl ?_
    refine lv_istore (lv' := [(5, .int m_6), (4, .int (d 33)), (3, .int (d 25)), (2, .int (70 : Int32)), (0, .ref (E.2.2.2 161)), (1, .int (1 : Int32))]) S.1 S.2.1 dX9_flows_70 hl (by decide) rfl (fun ls hl => ?_)
    refine lv_aload_n S.1 S.2.1 dX9_flows_72 rfl (lv_at hl 4 rfl) ?_
    refine s_get S hX G (i := 161) (kd := 9) (a := (I 161)) (v := .ref (E.2.2.2 162)) (C := RX9) (T := TX9) (N := 13) 0 (rfl : sh 161 = 9) rfl rfl rfl (by decide) rfl (fun _ h => (List.mem_cons_of_mem _ (List.mem_append_right _ h))) (by decide) (List.mem_of_getElem? (i := 1) rfl) (fun _ h => h) dX9_flows_73 ?_
    refine lv_iload_n S.1 S.2.1 dX9_flows_76 rfl (lv_at hl 3 rfl) ?_
    refine lv_bipush (v := (9 : Int32)) S.1 S.2.1 dX9_flows_77 (by decide) ?_
    refine s_iadd (v := (79 : Int32)) S dX9_flows_79 (by decide) ?_
    refine lv_iload S.1 S.2.1 dX9_flows_80 (lv_at hl 0 rfl) ?_
    refine s_iast S hX G (i := 162) (kd := 284) (n := 270) (jn := 79) (a := d) (I' := (up I 162 (upd d 79 m_6))) (rfl : sh 162 = 284) e_d (fun _ => rfl) (by decide) (by unfold vp_in; decide) (by decide) rfl dX9_flows_82 (fun H locs G => ?_)
    refine lv_aload_n S.1 S.2.1 dX9_flows_83 rfl (lv_at hl 4 rfl) ?_
    refine s_get S hX G (i := 161) (kd := 9) (a := (I 161)) (v := .ref (E.2.2.2 162)) (C := RX9) (T := TX9) (N := 13) 0 (rfl : sh 161 = 9) (up_ne (by decide)) rfl rfl (by decide) rfl (fun _ h => (List.mem_cons_of_mem _ (List.mem_append_right _ h))) (by decide) (List.mem_of_getElem? (i := 1) rfl) (fun _ h => h) dX9_flows_84 ?_
    refine lv_iload_n S.1 S.2.1 dX9_flows_87 rfl (lv_at hl 3 rfl) ?_
    refine lv_bipush (v := (10 : Int32)) S.1 S.2.1 dX9_flows_88 (by decide) ?_
    refine s_iadd (v := (80 : Int32)) S dX9_flows_90 (by decide) ?_
    refine s_cut (α := Int32) (nL := 7) (E := E) (fun x I' L' => x = (runM (d 80) m_6) ∧ I' = (up I 162 (upd d 79 m_6)) ∧ L' = L) (fun x => [(5, .int m_6), (4, .int (d 33)), (3, .int (d 25)), (2, .int (70 : Int32)), (0, .ref (E.2.2.2 161)), (1, .int (1 : Int32))]) 118 (fun x => [.int x, .int (80 : Int32), .ref (E.2.2.2 162)]) (fun kJ_7 => ?_) (fun x I1 L1 H locs ls hP G hl => ?_)
    · refine lv_iload S.1 S.2.1 dX9_flows_91 (lv_at hl 0 rfl) ?_
      refine lv_iconst (v := (1 : Int32)) S.1 S.2.1 dX9_flows_93 (by decide) ?_
      refine lv_icmp_eq (tgt := 103) S.1 S.2.1 dX9_flows_94 (by decide) (fun c_8 => ?_) (fun c_8 => ?_)
      · refine lv_aload_n S.1 S.2.1 dX9_flows_103 rfl (lv_at hl 4 rfl) ?_
        refine s_get S hX G (i := 161) (kd := 9) (a := (I 161)) (v := .ref (E.2.2.2 162)) (C := RX9) (T := TX9) (N := 13) 0 (rfl : sh 161 = 9) (up_ne (by decide)) rfl rfl (by decide) rfl (fun _ h => (List.mem_cons_of_mem _ (List.mem_append_right _ h))) (by decide) (List.mem_of_getElem? (i := 1) rfl) (fun _ h => h) dX9_flows_104 ?_
        refine lv_iload_n S.1 S.2.1 dX9_flows_107 rfl (lv_at hl 3 rfl) ?_
        refine lv_bipush (v := (10 : Int32)) S.1 S.2.1 dX9_flows_108 (by decide) ?_
        refine s_iadd (v := (80 : Int32)) S dX9_flows_110 (by decide) ?_
        refine s_iald S hX G (i := 162) (kd := 284) (n := 270) (a := (upd d 79 m_6)) (x := (d 80)) (rfl : sh 162 = 284) up_eq rfl (by decide) (by unfold vp_in; decide) (show (upd d 79 m_6) (Int32.toNatClampNeg (80 : Int32)) = (d 80) from congrArg (upd d 79 m_6) (show Int32.toNatClampNeg (80 : Int32) = 80 from (by decide))) dX9_flows_111 ?_
        refine lv_iconst (v := (1 : Int32)) S.1 S.2.1 dX9_flows_112 (by decide) ?_
        refine s_iadd (v := ((d 80) + (1 : Int32))) S dX9_flows_113 rfl ?_
        refine lv_goto (tgt := 118) S.1 S.2.1 dX9_flows_114 (by decide) ?_
        exact kJ_7 ((d 80) + (1 : Int32)) _ _ _ _ _ ⟨(show ((d 80) + (1 : Int32)) = (runM (d 80) m_6) by subst em_6; simp [runM, c_8]), rfl, rfl⟩ G (lv_sub hl [0, 1, 2, 3, 4, 5] rfl)
      · refine lv_iload S.1 S.2.1 dX9_flows_97 (lv_at hl 0 rfl) ?_
        refine lv_iconst (v := (-1 : Int32)) S.1 S.2.1 dX9_flows_99 (by decide) ?_
        refine lv_icmp_ne (tgt := 117) S.1 S.2.1 dX9_flows_100 (by decide) (fun c_9 => ?_) (fun c_9 => ?_)
        · refine lv_iconst (v := (0 : Int32)) S.1 S.2.1 dX9_flows_117 (by decide) ?_
          exact kJ_7 (0 : Int32) _ _ _ _ _ ⟨(show (0 : Int32) = (runM (d 80) m_6) by subst em_6; simp [runM, c_8, c_9]), rfl, rfl⟩ G (lv_sub hl [0, 1, 2, 3, 4, 5] rfl)
        · refine lv_aload_n S.1 S.2.1 dX9_flows_103 rfl (lv_at hl 4 rfl) ?_
          refine s_get S hX G (i := 161) (kd := 9) (a := (I 161)) (v := .ref (E.2.2.2 162)) (C := RX9) (T := TX9) (N := 13) 0 (rfl : sh 161 = 9) (up_ne (by decide)) rfl rfl (by decide) rfl (fun _ h => (List.mem_cons_of_mem _ (List.mem_append_right _ h))) (by decide) (List.mem_of_getElem? (i := 1) rfl) (fun _ h => h) dX9_flows_104 ?_
          refine lv_iload_n S.1 S.2.1 dX9_flows_107 rfl (lv_at hl 3 rfl) ?_
          refine lv_bipush (v := (10 : Int32)) S.1 S.2.1 dX9_flows_108 (by decide) ?_
          refine s_iadd (v := (80 : Int32)) S dX9_flows_110 (by decide) ?_
          refine s_iald S hX G (i := 162) (kd := 284) (n := 270) (a := (upd d 79 m_6)) (x := (d 80)) (rfl : sh 162 = 284) up_eq rfl (by decide) (by unfold vp_in; decide) (show (upd d 79 m_6) (Int32.toNatClampNeg (80 : Int32)) = (d 80) from congrArg (upd d 79 m_6) (show Int32.toNatClampNeg (80 : Int32) = 80 from (by decide))) dX9_flows_111 ?_
          refine lv_iconst (v := (1 : Int32)) S.1 S.2.1 dX9_flows_112 (by decide) ?_
          refine s_iadd (v := ((d 80) + (1 : Int32))) S dX9_flows_113 rfl ?_
          refine lv_goto (tgt := 118) S.1 S.2.1 dX9_flows_114 (by decide) ?_
          exact kJ_7 ((d 80) + (1 : Int32)) _ _ _ _ _ ⟨(show ((d 80) + (1 : Int32)) = (runM (d 80) m_6) by subst em_6; simp [runM, c_8, c_9]), rfl, rfl⟩ G (lv_sub hl [0, 1, 2, 3, 4, 5] rfl)
    · obtain ⟨h0, hI, hL⟩ := hP
      have h0 : x = (runM (d 80) m_6) := h0
      have hl : lv_has ls 7 [(5, .int m_6), (4, .int (d 33)), (3, .int (d 25)), (2, .int (70 : Int32)), (0, .ref (E.2.2.2 161)), (1, .int (1 : Int32))] := hl
      obtain ⟨m_10, rfl⟩ : ∃ z, z = x := ⟨_, rfl⟩
      have em_10 : m_10 = (runM (d 80) m_6) := h0
      have G : GS E (up I 162 (upd d 79 m_6)) L sg H locs := G.same hI hL
      refine W.eq (g2 := F0 mg 118 ls [.int m_10, .int (80 : Int32), .ref (E.2.2.2 162)]) rfl ?_
      refine s_iast S hX G (i := 162) (kd := 284) (n := 270) (jn := 80) (a := (upd d 79 m_6)) (I' := (up I 162 (upd (upd d 79 m_6) 80 m_10))) (rfl : sh 162 = 284) up_eq (fun _ => rfl) (by decide) (by unfold vp_in; decide) (by decide) (by rw [up_up]) dX9_flows_118 (fun H locs G => ?_)
      refine lv_aload_n S.1 S.2.1 dX9_flows_119 rfl (lv_at hl 4 rfl) ?_
      refine s_get S hX G (i := 161) (kd := 9) (a := (I 161)) (v := .ref (E.2.2.2 162)) (C := RX9) (T := TX9) (N := 13) 0 (rfl : sh 161 = 9) (up_ne (by decide)) rfl rfl (by decide) rfl (fun _ h => (List.mem_cons_of_mem _ (List.mem_append_right _ h))) (by decide) (List.mem_of_getElem? (i := 1) rfl) (fun _ h => h) dX9_flows_120 ?_
      refine lv_iload_n S.1 S.2.1 dX9_flows_123 rfl (lv_at hl 3 rfl) ?_
      refine lv_iconst (v := (4 : Int32)) S.1 S.2.1 dX9_flows_124 (by decide) ?_
      refine s_iadd (v := (74 : Int32)) S dX9_flows_125 (by decide) ?_
      refine s_iald S hX G (i := 162) (kd := 284) (n := 270) (a := (upd (upd d 79 m_6) 80 m_10)) (x := (d 74)) (rfl : sh 162 = 284) up_eq rfl (by decide) (by unfold vp_in; decide) (show (upd (upd d 79 m_6) 80 m_10) (Int32.toNatClampNeg (74 : Int32)) = (d 74) from congrArg (upd (upd d 79 m_6) 80 m_10) (show Int32.toNatClampNeg (74 : Int32) = 74 from (by decide))) dX9_flows_126 ?_
      refine lv_istore (lv' := [(6, .int (d 74)), (5, .int m_6), (4, .int (d 33)), (3, .int (d 25)), (2, .int (70 : Int32)), (0, .ref (E.2.2.2 161)), (1, .int (1 : Int32))]) S.1 S.2.1 dX9_flows_127 hl (by decide) rfl (fun ls hl => ?_)
      refine s_cut (α := Int32) (nL := 7) (E := E) (fun x I' L' => x = (if m_6 = 9 then towF (d 74) (d 70 + d 71) else towF (d 74 + m_6 * d 70) (d 71)) ∧ I' = (up I 162 (upd (upd d 79 m_6) 80 m_10)) ∧ L' = L) (fun x => [(6, .int x), (5, .int m_6), (4, .int (d 33)), (3, .int (d 25)), (2, .int (70 : Int32)), (0, .ref (E.2.2.2 161)), (1, .int (1 : Int32))]) 190 (fun x => []) (fun kJ_11 => ?_) (fun x I1 L1 H locs ls hP G hl => ?_)
      · refine lv_iload S.1 S.2.1 dX9_flows_129 (lv_at hl 1 rfl) ?_
        refine lv_bipush (v := (9 : Int32)) S.1 S.2.1 dX9_flows_131 (by decide) ?_
        refine lv_icmp_ne (tgt := 163) S.1 S.2.1 dX9_flows_133 (by decide) (fun c_12 => ?_) (fun c_12 => ?_)
        · refine lv_iload S.1 S.2.1 dX9_flows_163 (lv_at hl 0 rfl) ?_
          refine lv_iload S.1 S.2.1 dX9_flows_165 (lv_at hl 1 rfl) ?_
          refine lv_aload_n S.1 S.2.1 dX9_flows_167 rfl (lv_at hl 5 rfl) ?_
          refine s_get S hX G (i := 161) (kd := 9) (a := (I 161)) (v := .ref (E.2.2.2 162)) (C := RX9) (T := TX9) (N := 13) 0 (rfl : sh 161 = 9) (up_ne (by decide)) rfl rfl (by decide) rfl (fun _ h => (List.mem_cons_of_mem _ (List.mem_append_right _ h))) (by decide) (List.mem_of_getElem? (i := 1) rfl) (fun _ h => h) dX9_flows_168 ?_
          refine lv_iload_n S.1 S.2.1 dX9_flows_171 rfl (lv_at hl 4 rfl) ?_
          refine lv_iconst (v := (0 : Int32)) S.1 S.2.1 dX9_flows_172 (by decide) ?_
          refine s_iadd (v := (70 : Int32)) S dX9_flows_173 (by decide) ?_
          refine s_iald S hX G (i := 162) (kd := 284) (n := 270) (a := (upd (upd d 79 m_6) 80 m_10)) (x := (d 70)) (rfl : sh 162 = 284) up_eq rfl (by decide) (by unfold vp_in; decide) (show (upd (upd d 79 m_6) 80 m_10) (Int32.toNatClampNeg (70 : Int32)) = (d 70) from congrArg (upd (upd d 79 m_6) 80 m_10) (show Int32.toNatClampNeg (70 : Int32) = 70 from (by decide))) dX9_flows_174 ?_
          refine s_imul (v := (m_6 * (d 70))) S dX9_flows_175 rfl ?_
          refine s_iadd (v := ((d 74) + (m_6 * (d 70)))) S dX9_flows_176 rfl ?_
          refine lv_aload_n S.1 S.2.1 dX9_flows_177 rfl (lv_at hl 5 rfl) ?_
          refine s_get S hX G (i := 161) (kd := 9) (a := (I 161)) (v := .ref (E.2.2.2 162)) (C := RX9) (T := TX9) (N := 13) 0 (rfl : sh 161 = 9) (up_ne (by decide)) rfl rfl (by decide) rfl (fun _ h => (List.mem_cons_of_mem _ (List.mem_append_right _ h))) (by decide) (List.mem_of_getElem? (i := 1) rfl) (fun _ h => h) dX9_flows_178 ?_
          refine lv_iload_n S.1 S.2.1 dX9_flows_181 rfl (lv_at hl 4 rfl) ?_
          refine lv_iconst (v := (1 : Int32)) S.1 S.2.1 dX9_flows_182 (by decide) ?_
          refine s_iadd (v := (71 : Int32)) S dX9_flows_183 (by decide) ?_
          refine s_iald S hX G (i := 162) (kd := 284) (n := 270) (a := (upd (upd d 79 m_6) 80 m_10)) (x := (d 71)) (rfl : sh 162 = 284) up_eq rfl (by decide) (by unfold vp_in; decide) (show (upd (upd d 79 m_6) 80 m_10) (Int32.toNatClampNeg (71 : Int32)) = (d 71) from congrArg (upd (upd d 79 m_6) 80 m_10) (show Int32.toNatClampNeg (71 : Int32) = 71 from (by decide))) dX9_flows_184 ?_
          refine s_callS (As := [.int ((d 74) + (m_6 * (d 70))), .int (d 71)]) (rest := []) S hX G (k_X9_toward l E ((d 74) + (m_6 * (d 70))) (d 71)) (va_cwS (bytes := cX9_toward) (maxL := 2) (ret := (some .int)) 2 S.2.2.2.2 gX9_flows_X9_toward rfl rfl rfl (by decide +kernel) ⟨Nat.le_of_ble_eq_true rfl, Nat.le_of_ble_eq_true rfl⟩) rfl hl.1 rfl (Nat.le_of_ble_eq_true rfl) ⟨Nat.zero_le _, Nat.zero_le _⟩ dX9_flows_185 (fun v I1 L1 H locs hR G => ?_)
          obtain ⟨hv, hI, hL⟩ := hR
          subst hv
          have G : GS E (up I 162 (upd (upd d 79 m_6) 80 m_10)) L sg H locs := G.same hI hL
          refine W.eq (g2 := F0 mg 188 ls [.int (towF ((d 74) + (m_6 * (d 70))) (d 71))]) rfl ?_
          refine lv_topi (fun y_13 ey_13 => ?_)
          refine lv_istore (lv' := [(6, .int y_13), (5, .int m_6), (4, .int (d 33)), (3, .int (d 25)), (2, .int (70 : Int32)), (0, .ref (E.2.2.2 161)), (1, .int (1 : Int32))]) S.1 S.2.1 dX9_flows_188 hl (by decide) rfl (fun ls hl => ?_)
          exact kJ_11 y_13 _ _ _ _ _ ⟨(show y_13 = (if m_6 = 9 then towF (d 74) (d 70 + d 71) else towF (d 74 + m_6 * d 70) (d 71)) by subst ey_13 em_10 em_6; simp [c_12]), rfl, rfl⟩ G (lv_sub hl [0, 1, 2, 3, 4, 5, 6] rfl)
        · refine lv_iload S.1 S.2.1 dX9_flows_136 (lv_at hl 0 rfl) ?_
          refine lv_aload_n S.1 S.2.1 dX9_flows_138 rfl (lv_at hl 5 rfl) ?_
          refine s_get S hX G (i := 161) (kd := 9) (a := (I 161)) (v := .ref (E.2.2.2 162)) (C := RX9) (T := TX9) (N := 13) 0 (rfl : sh 161 = 9) (up_ne (by decide)) rfl rfl (by decide) rfl (fun _ h => (List.mem_cons_of_mem _ (List.mem_append_right _ h))) (by decide) (List.mem_of_getElem? (i := 1) rfl) (fun _ h => h) dX9_flows_139 ?_
          refine lv_iload_n S.1 S.2.1 dX9_flows_142 rfl (lv_at hl 4 rfl) ?_
          refine lv_iconst (v := (0 : Int32)) S.1 S.2.1 dX9_flows_143 (by decide) ?_
          refine s_iadd (v := (70 : Int32)) S dX9_flows_144 (by decide) ?_
          refine s_iald S hX G (i := 162) (kd := 284) (n := 270) (a := (upd (upd d 79 m_6) 80 m_10)) (x := (d 70)) (rfl : sh 162 = 284) up_eq rfl (by decide) (by unfold vp_in; decide) (show (upd (upd d 79 m_6) 80 m_10) (Int32.toNatClampNeg (70 : Int32)) = (d 70) from congrArg (upd (upd d 79 m_6) 80 m_10) (show Int32.toNatClampNeg (70 : Int32) = 70 from (by decide))) dX9_flows_145 ?_
          refine lv_aload_n S.1 S.2.1 dX9_flows_146 rfl (lv_at hl 5 rfl) ?_
          refine s_get S hX G (i := 161) (kd := 9) (a := (I 161)) (v := .ref (E.2.2.2 162)) (C := RX9) (T := TX9) (N := 13) 0 (rfl : sh 161 = 9) (up_ne (by decide)) rfl rfl (by decide) rfl (fun _ h => (List.mem_cons_of_mem _ (List.mem_append_right _ h))) (by decide) (List.mem_of_getElem? (i := 1) rfl) (fun _ h => h) dX9_flows_147 ?_
          refine lv_iload_n S.1 S.2.1 dX9_flows_150 rfl (lv_at hl 4 rfl) ?_
          refine lv_iconst (v := (1 : Int32)) S.1 S.2.1 dX9_flows_151 (by decide) ?_
          refine s_iadd (v := (71 : Int32)) S dX9_flows_152 (by decide) ?_
          refine s_iald S hX G (i := 162) (kd := 284) (n := 270) (a := (upd (upd d 79 m_6) 80 m_10)) (x := (d 71)) (rfl : sh 162 = 284) up_eq rfl (by decide) (by unfold vp_in; decide) (show (upd (upd d 79 m_6) 80 m_10) (Int32.toNatClampNeg (71 : Int32)) = (d 71) from congrArg (upd (upd d 79 m_6) 80 m_10) (show Int32.toNatClampNeg (71 : Int32) = 71 from (by decide))) dX9_flows_153 ?_
          refine s_iadd (v := ((d 70) + (d 71))) S dX9_flows_154 rfl ?_
          refine s_callS (As := [.int (d 74), .int ((d 70) + (d 71))]) (rest := []) S hX G (k_X9_toward l E (d 74) ((d 70) + (d 71))) (va_cwS (bytes := cX9_toward) (maxL := 2) (ret := (some .int)) 2 S.2.2.2.2 gX9_flows_X9_toward rfl rfl rfl (by decide +kernel) ⟨Nat.le_of_ble_eq_true rfl, Nat.le_of_ble_eq_true rfl⟩) rfl hl.1 rfl (Nat.le_of_ble_eq_true rfl) ⟨Nat.zero_le _, Nat.zero_le _⟩ dX9_flows_155 (fun v I1 L1 H locs hR G => ?_)
          obtain ⟨hv, hI, hL⟩ := hR
          subst hv
          have G : GS E (up I 162 (upd (upd d 79 m_6) 80 m_10)) L sg H locs := G.same hI hL
          refine W.eq (g2 := F0 mg 158 ls [.int (towF (d 74) ((d 70) + (d 71)))]) rfl ?_
          refine lv_topi (fun y_14 ey_14 => ?_)
          refine lv_istore (lv' := [(6, .int y_14), (5, .int m_6), (4, .int (d 33)), (3, .int (d 25)), (2, .int (70 : Int32)), (0, .ref (E.2.2.2 161)), (1, .int (1 : Int32))]) S.1 S.2.1 dX9_flows_158 hl (by decide) rfl (fun ls hl => ?_)
          refine lv_goto (tgt := 190) S.1 S.2.1 dX9_flows_160 (by decide) ?_
          exact kJ_11 y_14 _ _ _ _ _ ⟨(show y_14 = (if m_6 = 9 then towF (d 74) (d 70 + d 71) else towF (d 74 + m_6 * d 70) (d 71)) by subst ey_14 em_10 em_6; simp [c_12]), rfl, rfl⟩ G (lv_sub hl [0, 1, 2, 3, 4, 5, 6] rfl)
      · obtain ⟨h0, hI, hL⟩ := hP
        have h0 : x = (if m_6 = 9 then towF (d 74) (d 70 + d 71) else towF (d 74 + m_6 * d 70) (d 71)) := h0
        have hl : lv_has ls 7 [(6, .int x), (5, .int m_6), (4, .int (d 33)), (3, .int (d 25)), (2, .int (70 : Int32)), (0, .ref (E.2.2.2 161)), (1, .int (1 : Int32))] := hl
        obtain ⟨m_15, rfl⟩ : ∃ z, z = x := ⟨_, rfl⟩
        have em_15 : m_15 = (if m_6 = 9 then towF (d 74) (d 70 + d 71) else towF (d 74 + m_6 * d 70) (d 71)) := h0
        have G : GS E (up I 162 (upd (upd d 79 m_6) 80 m_10)) L sg H locs := G.same hI hL
        refine W.eq (g2 := F0 mg 190 ls []) rfl ?_
        refine lv_aload_n S.1 S.2.1 dX9_flows_190 rfl (lv_at hl 5 rfl) ?_
        refine s_get S hX G (i := 161) (kd := 9) (a := (I 161)) (v := .ref (E.2.2.2 162)) (C := RX9) (T := TX9) (N := 13) 0 (rfl : sh 161 = 9) (up_ne (by decide)) rfl rfl (by decide) rfl (fun _ h => (List.mem_cons_of_mem _ (List.mem_append_right _ h))) (by decide) (List.mem_of_getElem? (i := 1) rfl) (fun _ h => h) dX9_flows_191 ?_
        refine lv_iload_n S.1 S.2.1 dX9_flows_194 rfl (lv_at hl 4 rfl) ?_
        refine lv_iconst (v := (4 : Int32)) S.1 S.2.1 dX9_flows_195 (by decide) ?_
        refine s_iadd (v := (74 : Int32)) S dX9_flows_196 (by decide) ?_
        refine s_cut (α := Int32) (nL := 7) (E := E) (fun x I' L' => x = (clampM m_15) ∧ I' = (up I 162 (upd (upd d 79 m_6) 80 m_10)) ∧ L' = L) (fun x => [(6, .int m_15), (5, .int m_6), (4, .int (d 33)), (3, .int (d 25)), (2, .int (70 : Int32)), (0, .ref (E.2.2.2 161)), (1, .int (1 : Int32))]) 223 (fun x => [.int x, .int (74 : Int32), .ref (E.2.2.2 162)]) (fun kJ_16 => ?_) (fun x I1 L1 H locs ls hP G hl => ?_)
        · refine lv_iload S.1 S.2.1 dX9_flows_197 (lv_at hl 0 rfl) ?_
          refine lv_ldc (v := (1000000 : Int32)) S.1 S.2.1 S.2.2.2.1 (S.2.2.2.2 _ (List.mem_of_getElem? (i := 2) rfl)) dX9_flows_199 ?_
          refine lv_icmp_le (tgt := 209) S.1 S.2.1 dX9_flows_201 (by decide) (fun c_17 => ?_) (fun c_17 => ?_)
          · refine lv_iload S.1 S.2.1 dX9_flows_209 (lv_at hl 0 rfl) ?_
            refine lv_ldc (v := (-1000000 : Int32)) S.1 S.2.1 S.2.2.2.1 (S.2.2.2.2 _ (List.mem_of_getElem? (i := 3) rfl)) dX9_flows_211 ?_
            refine lv_icmp_ge (tgt := 221) S.1 S.2.1 dX9_flows_213 (by decide) (fun c_18 => ?_) (fun c_18 => ?_)
            · refine lv_iload S.1 S.2.1 dX9_flows_221 (lv_at hl 0 rfl) ?_
              exact kJ_16 m_15 _ _ _ _ _ ⟨(show m_15 = (clampM m_15) by subst em_15 em_10 em_6; simp [clampM, c_17, c_18]), rfl, rfl⟩ G (lv_sub hl [0, 1, 2, 3, 4, 5, 6] rfl)
            · refine lv_ldc (v := (-1000000 : Int32)) S.1 S.2.1 S.2.2.2.1 (S.2.2.2.2 _ (List.mem_of_getElem? (i := 3) rfl)) dX9_flows_216 ?_
              refine lv_goto (tgt := 223) S.1 S.2.1 dX9_flows_218 (by decide) ?_
              exact kJ_16 (-1000000 : Int32) _ _ _ _ _ ⟨(show (-1000000 : Int32) = (clampM m_15) by subst em_15 em_10 em_6; simp [clampM, c_17, c_18]), rfl, rfl⟩ G (lv_sub hl [0, 1, 2, 3, 4, 5, 6] rfl)
          · refine lv_ldc (v := (1000000 : Int32)) S.1 S.2.1 S.2.2.2.1 (S.2.2.2.2 _ (List.mem_of_getElem? (i := 2) rfl)) dX9_flows_204 ?_
            refine lv_goto (tgt := 223) S.1 S.2.1 dX9_flows_206 (by decide) ?_
            exact kJ_16 (1000000 : Int32) _ _ _ _ _ ⟨(show (1000000 : Int32) = (clampM m_15) by subst em_15 em_10 em_6; simp [clampM, c_17]), rfl, rfl⟩ G (lv_sub hl [0, 1, 2, 3, 4, 5, 6] rfl)
        · obtain ⟨h0, hI, hL⟩ := hP
          have h0 : x = (clampM m_15) := h0
          have hl : lv_has ls 7 [(6, .int m_15), (5, .int m_6), (4, .int (d 33)), (3, .int (d 25)), (2, .int (70 : Int32)), (0, .ref (E.2.2.2 161)), (1, .int (1 : Int32))] := hl
          obtain ⟨m_19, rfl⟩ : ∃ z, z = x := ⟨_, rfl⟩
          have em_19 : m_19 = (clampM m_15) := h0
          have G : GS E (up I 162 (upd (upd d 79 m_6) 80 m_10)) L sg H locs := G.same hI hL
          refine W.eq (g2 := F0 mg 223 ls [.int m_19, .int (74 : Int32), .ref (E.2.2.2 162)]) rfl ?_
          refine s_iast S hX G (i := 162) (kd := 284) (n := 270) (jn := 74) (a := (upd (upd d 79 m_6) 80 m_10)) (I' := (up I 162 (upd (upd (upd d 79 m_6) 80 m_10) 74 m_19))) (rfl : sh 162 = 284) up_eq (fun _ => rfl) (by decide) (by unfold vp_in; decide) (by decide) (by rw [up_up]) dX9_flows_223 (fun H locs G => ?_)
          refine s_vret S G hr hlk dX9_flows_224 ?_
          exact ⟨rfl, (st_eq1 (Eq.trans up_eq (show (upd (upd (upd d 79 m_6) 80 m_10) 74 m_19) = (flF d 24 70) by subst em_19 em_15 em_10 em_6; rfl)) (fun _ g0 => (up_ne g0))), rfl⟩
set_option maxHeartbeats 4000000 in
set_option maxRecDepth 100000 in
theorem k_X9_heats_1 (l : Launch) (E : Ev) {I : SI} {L : SL} (d : Nat → Int32) (e_d : I (162) = d) : CS l yX9_heats wsX9_heats ({ frames := 2, cells := 0, slots := 0, locals := 42 }) E [.ref (E.2.2.2 161), .int (1 : Int32)] I L (fun vv I' L' => vv = none ∧ I' = (up I (162) (htF d 70)) ∧ L' = L) := by
  refine CS.of (cc := cX9_heats) (maxL := 6) (ret := none) (by decide) rfl (Nat.le_of_ble_eq_true rfl) ?_
  intro pg en sg mg below meth cg ls S hr hlk hX G hl
  have S : CallFix pg mg cg cX9_heats 6 sg _ wsX9_heats RX9 := S
  have hl : lv_has ls 6 [(0, .ref (E.2.2.2 161)), (1, .int (1 : Int32))] := hl
  refine lv_aload_n S.1 S.2.1 dX9_heats_0 rfl (lv_at hl 0 rfl) ?_
  refine lv_iload_n S.1 S.2.1 dX9_heats_1 rfl (lv_at hl 1 rfl) ?_
  refine s_callV (C := RX9) (As := [.int (1 : Int32)]) (rest := []) (i := 161) (kd := 9) S hX G (k_X9_sizeOf_1 l E d e_d) (cwV (bytes := cX9_sizeOf) (maxL := 3) (ret := (some .int)) 1 S.2.2.2.2 gX9_heats_X9_sizeOf rfl rfl rfl (by decide +kernel) ⟨Nat.le_of_ble_eq_true rfl, Nat.le_of_ble_eq_true rfl⟩) (rfl : sh 161 = 9) rfl rfl rfl (by decide) rfl hl.1 rfl (Nat.le_of_ble_eq_true rfl) ⟨Nat.zero_le _, Nat.zero_le _⟩ dX9_heats_2 (fun v I1 L1 H locs hR G => ?_)
  obtain ⟨hv, hI, hL⟩ := hR
  subst hv
  have G : GS E I L sg H locs := G.same hI hL
  refine W.eq (g2 := F0 mg 5 ls [.int (absM (d 74))]) rfl ?_
  refine lv_topi (fun y_1 ey_1 => ?_)
  refine lv_i2l (v := (Int32.toInt64 y_1)) S.1 S.2.1 dX9_heats_5 rfl ?_
  refine lv_lstore_n (lv' := [(2, .long (Int32.toInt64 y_1)), (0, .ref (E.2.2.2 161)), (1, .int (1 : Int32))]) S.1 S.2.1 dX9_heats_6 rfl hl (by decide) rfl (fun ls hl => ?_)
  refine lv_aload_n S.1 S.2.1 dX9_heats_7 rfl (lv_at hl 1 rfl) ?_
  refine s_get S hX G (i := 161) (kd := 9) (a := (I 161)) (v := .ref (E.2.2.2 162)) (C := RX9) (T := TX9) (N := 13) 0 (rfl : sh 161 = 9) rfl rfl rfl (by decide) rfl (fun _ h => (List.mem_cons_of_mem _ (List.mem_append_right _ h))) (by decide) (List.mem_of_getElem? (i := 1) rfl) (fun _ h => h) dX9_heats_8 ?_
  refine lv_iload_n S.1 S.2.1 dX9_heats_11 rfl (lv_at hl 2 rfl) ?_
  refine s_callS (As := [.int (1 : Int32)]) (rest := [.ref (E.2.2.2 162)]) S hX G (k_X9_loadAt_1 l E) (va_cwS (bytes := cX9_loadAt) (maxL := 1) (ret := (some .int)) 1 S.2.2.2.2 gX9_heats_X9_loadAt rfl rfl rfl (by decide +kernel) ⟨Nat.le_of_ble_eq_true rfl, Nat.le_of_ble_eq_true rfl⟩) rfl hl.1 rfl (Nat.le_of_ble_eq_true rfl) ⟨Nat.zero_le _, Nat.zero_le _⟩ dX9_heats_12 (fun v I1 L1 H locs hR G => ?_)
  obtain ⟨hv, hI, hL⟩ := hR
  subst hv
  have G : GS E I L sg H locs := G.same hI hL
  refine W.eq (g2 := F0 mg 15 ls [.int (70 : Int32), .ref (E.2.2.2 162)]) rfl ?_
  refine lv_iconst (v := (5 : Int32)) S.1 S.2.1 dX9_heats_15 (by decide) ?_
  refine s_iadd (v := (75 : Int32)) S dX9_heats_16 (by decide) ?_
  refine s_iald S hX G (i := 162) (kd := 284) (n := 270) (a := d) (x := (d 75)) (rfl : sh 162 = 284) e_d rfl (by decide) (by unfold vp_in; decide) (congrArg d (by decide)) dX9_heats_17 ?_
  refine lv_i2l (v := (Int32.toInt64 (d 75))) S.1 S.2.1 dX9_heats_18 rfl ?_
  refine lv_lload_n S.1 S.2.1 dX9_heats_19 rfl (lv_at hl 0 rfl) ?_
  refine lv_lload_n S.1 S.2.1 dX9_heats_20 rfl (lv_at hl 0 rfl) ?_
  refine s_lmul (v := ((Int32.toInt64 y_1) * (Int32.toInt64 y_1))) S dX9_heats_21 rfl ?_
  refine lv_ldc2 (v := (1000 : Int64)) S.1 S.2.1 S.2.2.2.1 (S.2.2.2.2 _ (List.mem_of_getElem? (i := 2) rfl)) dX9_heats_22 ?_
  refine s_ldiv (v := (((Int32.toInt64 y_1) * (Int32.toInt64 y_1)) / (1000 : Int64))) S dX9_heats_25 (by decide) rfl ?_
  refine s_ladd (v := ((Int32.toInt64 (d 75)) + (((Int32.toInt64 y_1) * (Int32.toInt64 y_1)) / (1000 : Int64)))) S dX9_heats_26 rfl ?_
  refine lv_aload_n S.1 S.2.1 dX9_heats_27 rfl (lv_at hl 1 rfl) ?_
  refine s_get S hX G (i := 161) (kd := 9) (a := (I 161)) (v := .ref (E.2.2.2 162)) (C := RX9) (T := TX9) (N := 13) 0 (rfl : sh 161 = 9) rfl rfl rfl (by decide) rfl (fun _ h => (List.mem_cons_of_mem _ (List.mem_append_right _ h))) (by decide) (List.mem_of_getElem? (i := 1) rfl) (fun _ h => h) dX9_heats_28 ?_
  refine lv_bipush (v := (6 : Int32)) S.1 S.2.1 dX9_heats_31 (by decide) ?_
  refine s_iald S hX G (i := 162) (kd := 284) (n := 270) (a := d) (x := (d 6)) (rfl : sh 162 = 284) e_d rfl (by decide) (by unfold vp_in; decide) (congrArg d (by decide)) dX9_heats_33 ?_
  refine lv_i2l (v := (Int32.toInt64 (d 6))) S.1 S.2.1 dX9_heats_34 rfl ?_
  refine s_lsub (v := (((Int32.toInt64 (d 75)) + (((Int32.toInt64 y_1) * (Int32.toInt64 y_1)) / (1000 : Int64))) - (Int32.toInt64 (d 6)))) S dX9_heats_35 rfl ?_
  refine lv_lstore (lv' := [(4, .long (((Int32.toInt64 (d 75)) + (((Int32.toInt64 y_1) * (Int32.toInt64 y_1)) / (1000 : Int64))) - (Int32.toInt64 (d 6)))), (2, .long (Int32.toInt64 y_1)), (0, .ref (E.2.2.2 161)), (1, .int (1 : Int32))]) S.1 S.2.1 dX9_heats_36 hl (by decide) rfl (fun ls hl => ?_)
  refine lv_lload S.1 S.2.1 dX9_heats_38 (lv_at hl 0 rfl) ?_
  refine lv_lconst (v := (0 : Int64)) S.1 S.2.1 dX9_heats_40 (by decide) ?_
  refine W.lcmp S.1 S.2.1 dX9_heats_41 ?_
  refine s_if_ge_c (tgt := 49) S dX9_heats_42 (by decide) (fun c_2 => ?_) (fun c_2 => ?_)
  · refine lv_lload S.1 S.2.1 dX9_heats_49 (lv_at hl 0 rfl) ?_
    refine lv_ldc2 (v := (2000000000 : Int64)) S.1 S.2.1 S.2.2.2.1 (S.2.2.2.2 _ (List.mem_of_getElem? (i := 3) rfl)) dX9_heats_51 ?_
    refine W.lcmp S.1 S.2.1 dX9_heats_54 ?_
    refine s_if_le_c (tgt := 64) S dX9_heats_55 (by decide) (fun c_3 => ?_) (fun c_3 => ?_)
    · refine lv_lload S.1 S.2.1 dX9_heats_64 (lv_at hl 0 rfl) ?_
      refine lv_lstore (lv' := [(4, .long (((Int32.toInt64 (d 75)) + (((Int32.toInt64 y_1) * (Int32.toInt64 y_1)) / (1000 : Int64))) - (Int32.toInt64 (d 6)))), (2, .long (Int32.toInt64 y_1)), (0, .ref (E.2.2.2 161)), (1, .int (1 : Int32))]) S.1 S.2.1 dX9_heats_66 hl (by decide) rfl (fun ls hl => ?_)
      refine lv_aload_n S.1 S.2.1 dX9_heats_68 rfl (lv_at hl 2 rfl) ?_
      refine s_get S hX G (i := 161) (kd := 9) (a := (I 161)) (v := .ref (E.2.2.2 162)) (C := RX9) (T := TX9) (N := 13) 0 (rfl : sh 161 = 9) rfl rfl rfl (by decide) rfl (fun _ h => (List.mem_cons_of_mem _ (List.mem_append_right _ h))) (by decide) (List.mem_of_getElem? (i := 1) rfl) (fun _ h => h) dX9_heats_69 ?_
      refine lv_iload_n S.1 S.2.1 dX9_heats_72 rfl (lv_at hl 3 rfl) ?_
      refine s_callS (As := [.int (1 : Int32)]) (rest := [.ref (E.2.2.2 162)]) S hX G (k_X9_loadAt_1 l E) (va_cwS (bytes := cX9_loadAt) (maxL := 1) (ret := (some .int)) 1 S.2.2.2.2 gX9_heats_X9_loadAt rfl rfl rfl (by decide +kernel) ⟨Nat.le_of_ble_eq_true rfl, Nat.le_of_ble_eq_true rfl⟩) rfl hl.1 rfl (Nat.le_of_ble_eq_true rfl) ⟨Nat.zero_le _, Nat.zero_le _⟩ dX9_heats_73 (fun v I1 L1 H locs hR G => ?_)
      obtain ⟨hv, hI, hL⟩ := hR
      subst hv
      have G : GS E I L sg H locs := G.same hI hL
      refine W.eq (g2 := F0 mg 76 ls [.int (70 : Int32), .ref (E.2.2.2 162)]) rfl ?_
      refine lv_iconst (v := (5 : Int32)) S.1 S.2.1 dX9_heats_76 (by decide) ?_
      refine s_iadd (v := (75 : Int32)) S dX9_heats_77 (by decide) ?_
      refine lv_lload S.1 S.2.1 dX9_heats_78 (lv_at hl 0 rfl) ?_
      refine lv_l2i (v := (Int64.toInt32 (((Int32.toInt64 (d 75)) + (((Int32.toInt64 y_1) * (Int32.toInt64 y_1)) / (1000 : Int64))) - (Int32.toInt64 (d 6))))) S.1 S.2.1 dX9_heats_80 rfl ?_
      refine lv_topi (fun y_4 ey_4 => ?_)
      refine s_iast S hX G (i := 162) (kd := 284) (n := 270) (jn := 75) (a := d) (I' := (up I 162 (upd d 75 y_4))) (rfl : sh 162 = 284) e_d (fun _ => rfl) (by decide) (by unfold vp_in; decide) (by decide) rfl dX9_heats_81 (fun H locs G => ?_)
      refine s_vret S G hr hlk dX9_heats_82 ?_
      exact ⟨rfl, (st_eq1 (Eq.trans up_eq (show (upd d 75 y_4) = (htF d 70) by subst ey_4 ey_1; simp [htF, clampL, c_2, c_3])) (fun _ g0 => (up_ne g0))), rfl⟩
    · refine lv_ldc2 (v := (2000000000 : Int64)) S.1 S.2.1 S.2.2.2.1 (S.2.2.2.2 _ (List.mem_of_getElem? (i := 3) rfl)) dX9_heats_58 ?_
      refine lv_goto (tgt := 66) S.1 S.2.1 dX9_heats_61 (by decide) ?_
      refine lv_lstore (lv' := [(4, .long (2000000000 : Int64)), (2, .long (Int32.toInt64 y_1)), (0, .ref (E.2.2.2 161)), (1, .int (1 : Int32))]) S.1 S.2.1 dX9_heats_66 hl (by decide) rfl (fun ls hl => ?_)
      refine lv_aload_n S.1 S.2.1 dX9_heats_68 rfl (lv_at hl 2 rfl) ?_
      refine s_get S hX G (i := 161) (kd := 9) (a := (I 161)) (v := .ref (E.2.2.2 162)) (C := RX9) (T := TX9) (N := 13) 0 (rfl : sh 161 = 9) rfl rfl rfl (by decide) rfl (fun _ h => (List.mem_cons_of_mem _ (List.mem_append_right _ h))) (by decide) (List.mem_of_getElem? (i := 1) rfl) (fun _ h => h) dX9_heats_69 ?_
      refine lv_iload_n S.1 S.2.1 dX9_heats_72 rfl (lv_at hl 3 rfl) ?_
      refine s_callS (As := [.int (1 : Int32)]) (rest := [.ref (E.2.2.2 162)]) S hX G (k_X9_loadAt_1 l E) (va_cwS (bytes := cX9_loadAt) (maxL := 1) (ret := (some .int)) 1 S.2.2.2.2 gX9_heats_X9_loadAt rfl rfl rfl (by decide +kernel) ⟨Nat.le_of_ble_eq_true rfl, Nat.le_of_ble_eq_true rfl⟩) rfl hl.1 rfl (Nat.le_of_ble_eq_true rfl) ⟨Nat.zero_le _, Nat.zero_le _⟩ dX9_heats_73 (fun v I1 L1 H locs hR G => ?_)
      obtain ⟨hv, hI, hL⟩ := hR
      subst hv
      have G : GS E I L sg H locs := G.same hI hL
      refine W.eq (g2 := F0 mg 76 ls [.int (70 : Int32), .ref (E.2.2.2 162)]) rfl ?_
      refine lv_iconst (v := (5 : Int32)) S.1 S.2.1 dX9_heats_76 (by decide) ?_
      refine s_iadd (v := (75 : Int32)) S dX9_heats_77 (by decide) ?_
      refine lv_lload S.1 S.2.1 dX9_heats_78 (lv_at hl 0 rfl) ?_
      refine lv_l2i (v := (Int64.toInt32 (2000000000 : Int64))) S.1 S.2.1 dX9_heats_80 rfl ?_
      refine lv_topi (fun y_5 ey_5 => ?_)
      refine s_iast S hX G (i := 162) (kd := 284) (n := 270) (jn := 75) (a := d) (I' := (up I 162 (upd d 75 y_5))) (rfl : sh 162 = 284) e_d (fun _ => rfl) (by decide) (by unfold vp_in; decide) (by decide) rfl dX9_heats_81 (fun H locs G => ?_)
      refine s_vret S G hr hlk dX9_heats_82 ?_
      exact ⟨rfl, (st_eq1 (Eq.trans up_eq (show (upd d 75 y_5) = (htF d 70) by subst ey_5 ey_1; simp [htF, clampL, c_2, c_3])) (fun _ g0 => (up_ne g0))), rfl⟩
  · refine lv_lconst (v := (0 : Int64)) S.1 S.2.1 dX9_heats_45 (by decide) ?_
    refine lv_goto (tgt := 66) S.1 S.2.1 dX9_heats_46 (by decide) ?_
    refine lv_lstore (lv' := [(4, .long (0 : Int64)), (2, .long (Int32.toInt64 y_1)), (0, .ref (E.2.2.2 161)), (1, .int (1 : Int32))]) S.1 S.2.1 dX9_heats_66 hl (by decide) rfl (fun ls hl => ?_)
    refine lv_aload_n S.1 S.2.1 dX9_heats_68 rfl (lv_at hl 2 rfl) ?_
    refine s_get S hX G (i := 161) (kd := 9) (a := (I 161)) (v := .ref (E.2.2.2 162)) (C := RX9) (T := TX9) (N := 13) 0 (rfl : sh 161 = 9) rfl rfl rfl (by decide) rfl (fun _ h => (List.mem_cons_of_mem _ (List.mem_append_right _ h))) (by decide) (List.mem_of_getElem? (i := 1) rfl) (fun _ h => h) dX9_heats_69 ?_
    refine lv_iload_n S.1 S.2.1 dX9_heats_72 rfl (lv_at hl 3 rfl) ?_
    refine s_callS (As := [.int (1 : Int32)]) (rest := [.ref (E.2.2.2 162)]) S hX G (k_X9_loadAt_1 l E) (va_cwS (bytes := cX9_loadAt) (maxL := 1) (ret := (some .int)) 1 S.2.2.2.2 gX9_heats_X9_loadAt rfl rfl rfl (by decide +kernel) ⟨Nat.le_of_ble_eq_true rfl, Nat.le_of_ble_eq_true rfl⟩) rfl hl.1 rfl (Nat.le_of_ble_eq_true rfl) ⟨Nat.zero_le _, Nat.zero_le _⟩ dX9_heats_73 (fun v I1 L1 H locs hR G => ?_)
    obtain ⟨hv, hI, hL⟩ := hR
    subst hv
    have G : GS E I L sg H locs := G.same hI hL
    refine W.eq (g2 := F0 mg 76 ls [.int (70 : Int32), .ref (E.2.2.2 162)]) rfl ?_
    refine lv_iconst (v := (5 : Int32)) S.1 S.2.1 dX9_heats_76 (by decide) ?_
    refine s_iadd (v := (75 : Int32)) S dX9_heats_77 (by decide) ?_
    refine lv_lload S.1 S.2.1 dX9_heats_78 (lv_at hl 0 rfl) ?_
    refine lv_l2i (v := (Int64.toInt32 (0 : Int64))) S.1 S.2.1 dX9_heats_80 rfl ?_
    refine lv_topi (fun y_6 ey_6 => ?_)
    refine s_iast S hX G (i := 162) (kd := 284) (n := 270) (jn := 75) (a := d) (I' := (up I 162 (upd d 75 y_6))) (rfl : sh 162 = 284) e_d (fun _ => rfl) (by decide) (by unfold vp_in; decide) (by decide) rfl dX9_heats_81 (fun H locs G => ?_)
    refine s_vret S G hr hlk dX9_heats_82 ?_
    exact ⟨rfl, (st_eq1 (Eq.trans up_eq (show (upd d 75 y_6) = (htF d 70) by subst ey_6 ey_1; simp [htF, clampL, c_2])) (fun _ g0 => (up_ne g0))), rfl⟩
set_option maxHeartbeats 4000000 in
set_option maxRecDepth 100000 in
theorem k_X9_looks_1 (l : Launch) (E : Ev) {I : SI} {L : SL} (d : Nat → Int32) (e_d : I (162) = d) : CS l yX9_looks wsX9_looks ({ frames := 2, cells := 0, slots := 0, locals := 42 }) E [.ref (E.2.2.2 161), .int (1 : Int32)] I L (fun vv I' L' => vv = none ∧ I' = (up I (162) (lkF d 70)) ∧ L' = L) := by
  refine CS.of (cc := cX9_looks) (maxL := 3) (ret := none) (by decide) rfl (Nat.le_of_ble_eq_true rfl) ?_
  intro pg en sg mg below meth cg ls S hr hlk hX G hl
  have S : CallFix pg mg cg cX9_looks 3 sg _ wsX9_looks RX9 := S
  have hl : lv_has ls 3 [(0, .ref (E.2.2.2 161)), (1, .int (1 : Int32))] := hl
  refine lv_iload_n S.1 S.2.1 dX9_looks_0 rfl (lv_at hl 1 rfl) ?_
  refine s_callS (As := [.int (1 : Int32)]) (rest := []) S hX G (k_X9_loadAt_1 l E) (va_cwS (bytes := cX9_loadAt) (maxL := 1) (ret := (some .int)) 1 S.2.2.2.2 gX9_looks_X9_loadAt rfl rfl rfl (by decide +kernel) ⟨Nat.le_of_ble_eq_true rfl, Nat.le_of_ble_eq_true rfl⟩) rfl hl.1 rfl (Nat.le_of_ble_eq_true rfl) ⟨Nat.zero_le _, Nat.zero_le _⟩ dX9_looks_1 (fun v I1 L1 H locs hR G => ?_)
  obtain ⟨hv, hI, hL⟩ := hR
  subst hv
  have G : GS E I L sg H locs := G.same hI hL
  refine W.eq (g2 := F0 mg 4 ls [.int (70 : Int32)]) rfl ?_
  refine lv_istore_n (lv' := [(2, .int (70 : Int32)), (0, .ref (E.2.2.2 161)), (1, .int (1 : Int32))]) S.1 S.2.1 dX9_looks_4 rfl hl (by decide) rfl (fun ls hl => ?_)
  refine lv_aload_n S.1 S.2.1 dX9_looks_5 rfl (lv_at hl 1 rfl) ?_
  refine s_get S hX G (i := 161) (kd := 9) (a := (I 161)) (v := .ref (E.2.2.2 162)) (C := RX9) (T := TX9) (N := 13) 0 (rfl : sh 161 = 9) rfl rfl rfl (by decide) rfl (fun _ h => (List.mem_cons_of_mem _ (List.mem_append_right _ h))) (by decide) (List.mem_of_getElem? (i := 1) rfl) (fun _ h => h) dX9_looks_6 ?_
  refine lv_iload_n S.1 S.2.1 dX9_looks_9 rfl (lv_at hl 0 rfl) ?_
  refine lv_bipush (v := (6 : Int32)) S.1 S.2.1 dX9_looks_10 (by decide) ?_
  refine s_iadd (v := (76 : Int32)) S dX9_looks_12 (by decide) ?_
  refine s_iald S hX G (i := 162) (kd := 284) (n := 270) (a := d) (x := (d 76)) (rfl : sh 162 = 284) e_d rfl (by decide) (by unfold vp_in; decide) (congrArg d (by decide)) dX9_looks_13 ?_
  refine lv_iconst (v := (1 : Int32)) S.1 S.2.1 dX9_looks_14 (by decide) ?_
  refine lv_icmp_ne (tgt := 97) S.1 S.2.1 dX9_looks_15 (by decide) (fun c_1 => ?_) (fun c_1 => ?_)
  · refine s_vret S G hr hlk dX9_looks_97 ?_
    exact ⟨rfl, (st_eq1 (Eq.trans e_d (show d = (lkF d 70) by simp [lkF, c_1])) (fun _ g0 => rfl)), rfl⟩
  · refine lv_aload_n S.1 S.2.1 dX9_looks_18 rfl (lv_at hl 1 rfl) ?_
    refine s_get S hX G (i := 161) (kd := 9) (a := (I 161)) (v := .ref (E.2.2.2 162)) (C := RX9) (T := TX9) (N := 13) 0 (rfl : sh 161 = 9) rfl rfl rfl (by decide) rfl (fun _ h => (List.mem_cons_of_mem _ (List.mem_append_right _ h))) (by decide) (List.mem_of_getElem? (i := 1) rfl) (fun _ h => h) dX9_looks_19 ?_
    refine lv_iload_n S.1 S.2.1 dX9_looks_22 rfl (lv_at hl 0 rfl) ?_
    refine lv_bipush (v := (8 : Int32)) S.1 S.2.1 dX9_looks_23 (by decide) ?_
    refine s_iadd (v := (78 : Int32)) S dX9_looks_25 (by decide) ?_
    refine s_iald S hX G (i := 162) (kd := 284) (n := 270) (a := d) (x := (d 78)) (rfl : sh 162 = 284) e_d rfl (by decide) (by unfold vp_in; decide) (congrArg d (by decide)) dX9_looks_26 ?_
    refine lv_if_ne (tgt := 97) S.1 S.2.1 dX9_looks_27 (by decide) (fun c_2 => ?_) (fun c_2 => ?_)
    · refine s_vret S G hr hlk dX9_looks_97 ?_
      exact ⟨rfl, (st_eq1 (Eq.trans e_d (show d = (lkF d 70) by simp [lkF, c_1, c_2])) (fun _ g0 => rfl)), rfl⟩
    · refine lv_aload_n S.1 S.2.1 dX9_looks_30 rfl (lv_at hl 1 rfl) ?_
      refine s_get S hX G (i := 161) (kd := 9) (a := (I 161)) (v := .ref (E.2.2.2 162)) (C := RX9) (T := TX9) (N := 13) 0 (rfl : sh 161 = 9) rfl rfl rfl (by decide) rfl (fun _ h => (List.mem_cons_of_mem _ (List.mem_append_right _ h))) (by decide) (List.mem_of_getElem? (i := 1) rfl) (fun _ h => h) dX9_looks_31 ?_
      refine lv_iload_n S.1 S.2.1 dX9_looks_34 rfl (lv_at hl 0 rfl) ?_
      refine lv_bipush (v := (7 : Int32)) S.1 S.2.1 dX9_looks_35 (by decide) ?_
      refine s_iadd (v := (77 : Int32)) S dX9_looks_37 (by decide) ?_
      refine lv_aload_n S.1 S.2.1 dX9_looks_38 rfl (lv_at hl 1 rfl) ?_
      refine lv_iload_n S.1 S.2.1 dX9_looks_39 rfl (lv_at hl 2 rfl) ?_
      refine s_callV (C := RX9) (As := [.int (1 : Int32)]) (rest := [.int (77 : Int32), .ref (E.2.2.2 162)]) (i := 161) (kd := 9) S hX G (k_X9_sizeOf_1 l E d e_d) (cwV (bytes := cX9_sizeOf) (maxL := 3) (ret := (some .int)) 1 S.2.2.2.2 gX9_looks_X9_sizeOf rfl rfl rfl (by decide +kernel) ⟨Nat.le_of_ble_eq_true rfl, Nat.le_of_ble_eq_true rfl⟩) (rfl : sh 161 = 9) rfl rfl rfl (by decide) rfl hl.1 rfl (Nat.le_of_ble_eq_true rfl) ⟨Nat.zero_le _, Nat.zero_le _⟩ dX9_looks_40 (fun v I1 L1 H locs hR G => ?_)
      obtain ⟨hv, hI, hL⟩ := hR
      subst hv
      have G : GS E I L sg H locs := G.same hI hL
      refine W.eq (g2 := F0 mg 43 ls [.int (absM (d 74)), .int (77 : Int32), .ref (E.2.2.2 162)]) rfl ?_
      refine lv_topi (fun y_3 ey_3 => ?_)
      refine lv_aload_n S.1 S.2.1 dX9_looks_43 rfl (lv_at hl 1 rfl) ?_
      refine s_get S hX G (i := 161) (kd := 9) (a := (I 161)) (v := .ref (E.2.2.2 162)) (C := RX9) (T := TX9) (N := 13) 0 (rfl : sh 161 = 9) rfl rfl rfl (by decide) rfl (fun _ h => (List.mem_cons_of_mem _ (List.mem_append_right _ h))) (by decide) (List.mem_of_getElem? (i := 1) rfl) (fun _ h => h) dX9_looks_44 ?_
      refine lv_iload_n S.1 S.2.1 dX9_looks_47 rfl (lv_at hl 0 rfl) ?_
      refine lv_iconst (v := (2 : Int32)) S.1 S.2.1 dX9_looks_48 (by decide) ?_
      refine s_iadd (v := (72 : Int32)) S dX9_looks_49 (by decide) ?_
      refine s_iald S hX G (i := 162) (kd := 284) (n := 270) (a := d) (x := (d 72)) (rfl : sh 162 = 284) e_d rfl (by decide) (by unfold vp_in; decide) (congrArg d (by decide)) dX9_looks_50 ?_
      refine lv_icmp_lt (tgt := 58) S.1 S.2.1 dX9_looks_51 (by decide) (fun c_4 => ?_) (fun c_4 => ?_)
      · refine lv_aload_n S.1 S.2.1 dX9_looks_58 rfl (lv_at hl 1 rfl) ?_
        refine lv_iload_n S.1 S.2.1 dX9_looks_59 rfl (lv_at hl 2 rfl) ?_
        refine s_callV (C := RX9) (As := [.int (1 : Int32)]) (rest := [.int (77 : Int32), .ref (E.2.2.2 162)]) (i := 161) (kd := 9) S hX G (k_X9_sizeOf_1 l E d e_d) (cwV (bytes := cX9_sizeOf) (maxL := 3) (ret := (some .int)) 1 S.2.2.2.2 gX9_looks_X9_sizeOf rfl rfl rfl (by decide +kernel) ⟨Nat.le_of_ble_eq_true rfl, Nat.le_of_ble_eq_true rfl⟩) (rfl : sh 161 = 9) rfl rfl rfl (by decide) rfl hl.1 rfl (Nat.le_of_ble_eq_true rfl) ⟨Nat.zero_le _, Nat.zero_le _⟩ dX9_looks_60 (fun v I1 L1 H locs hR G => ?_)
        obtain ⟨hv, hI, hL⟩ := hR
        subst hv
        have G : GS E I L sg H locs := G.same hI hL
        refine W.eq (g2 := F0 mg 63 ls [.int (absM (d 74)), .int (77 : Int32), .ref (E.2.2.2 162)]) rfl ?_
        refine lv_topi (fun y_5 ey_5 => ?_)
        refine lv_aload_n S.1 S.2.1 dX9_looks_63 rfl (lv_at hl 1 rfl) ?_
        refine s_get S hX G (i := 161) (kd := 9) (a := (I 161)) (v := .ref (E.2.2.2 162)) (C := RX9) (T := TX9) (N := 13) 0 (rfl : sh 161 = 9) rfl rfl rfl (by decide) rfl (fun _ h => (List.mem_cons_of_mem _ (List.mem_append_right _ h))) (by decide) (List.mem_of_getElem? (i := 1) rfl) (fun _ h => h) dX9_looks_64 ?_
        refine lv_iload_n S.1 S.2.1 dX9_looks_67 rfl (lv_at hl 0 rfl) ?_
        refine lv_iconst (v := (2 : Int32)) S.1 S.2.1 dX9_looks_68 (by decide) ?_
        refine s_iadd (v := (72 : Int32)) S dX9_looks_69 (by decide) ?_
        refine s_iald S hX G (i := 162) (kd := 284) (n := 270) (a := d) (x := (d 72)) (rfl : sh 162 = 284) e_d rfl (by decide) (by unfold vp_in; decide) (congrArg d (by decide)) dX9_looks_70 ?_
        refine lv_aload_n S.1 S.2.1 dX9_looks_71 rfl (lv_at hl 1 rfl) ?_
        refine s_get S hX G (i := 161) (kd := 9) (a := (I 161)) (v := .ref (E.2.2.2 162)) (C := RX9) (T := TX9) (N := 13) 0 (rfl : sh 161 = 9) rfl rfl rfl (by decide) rfl (fun _ h => (List.mem_cons_of_mem _ (List.mem_append_right _ h))) (by decide) (List.mem_of_getElem? (i := 1) rfl) (fun _ h => h) dX9_looks_72 ?_
        refine lv_iload_n S.1 S.2.1 dX9_looks_75 rfl (lv_at hl 0 rfl) ?_
        refine lv_iconst (v := (3 : Int32)) S.1 S.2.1 dX9_looks_76 (by decide) ?_
        refine s_iadd (v := (73 : Int32)) S dX9_looks_77 (by decide) ?_
        refine s_iald S hX G (i := 162) (kd := 284) (n := 270) (a := d) (x := (d 73)) (rfl : sh 162 = 284) e_d rfl (by decide) (by unfold vp_in; decide) (congrArg d (by decide)) dX9_looks_78 ?_
        refine s_isub (v := ((d 72) - (d 73))) S dX9_looks_79 rfl ?_
        refine lv_icmp_gt (tgt := 87) S.1 S.2.1 dX9_looks_80 (by decide) (fun c_6 => ?_) (fun c_6 => ?_)
        · refine lv_aload_n S.1 S.2.1 dX9_looks_87 rfl (lv_at hl 1 rfl) ?_
          refine s_get S hX G (i := 161) (kd := 9) (a := (I 161)) (v := .ref (E.2.2.2 162)) (C := RX9) (T := TX9) (N := 13) 0 (rfl : sh 161 = 9) rfl rfl rfl (by decide) rfl (fun _ h => (List.mem_cons_of_mem _ (List.mem_append_right _ h))) (by decide) (List.mem_of_getElem? (i := 1) rfl) (fun _ h => h) dX9_looks_88 ?_
          refine lv_iload_n S.1 S.2.1 dX9_looks_91 rfl (lv_at hl 0 rfl) ?_
          refine lv_bipush (v := (7 : Int32)) S.1 S.2.1 dX9_looks_92 (by decide) ?_
          refine s_iadd (v := (77 : Int32)) S dX9_looks_94 (by decide) ?_
          refine s_iald S hX G (i := 162) (kd := 284) (n := 270) (a := d) (x := (d 77)) (rfl : sh 162 = 284) e_d rfl (by decide) (by unfold vp_in; decide) (congrArg d (by decide)) dX9_looks_95 ?_
          refine s_iast S hX G (i := 162) (kd := 284) (n := 270) (jn := 77) (a := d) (I' := (up I 162 (upd d 77 (d 77)))) (rfl : sh 162 = 284) e_d (fun _ => rfl) (by decide) (by unfold vp_in; decide) (by decide) rfl dX9_looks_96 (fun H locs G => ?_)
          refine s_vret S G hr hlk dX9_looks_97 ?_
          exact ⟨rfl, (st_eq1 (Eq.trans up_eq (show (upd d 77 (d 77)) = (lkF d 70) by subst ey_5 ey_3; simp [lkF, c_1, c_2, c_4, c_6])) (fun _ g0 => (up_ne g0))), rfl⟩
        · refine lv_iconst (v := (0 : Int32)) S.1 S.2.1 dX9_looks_83 (by decide) ?_
          refine lv_goto (tgt := 96) S.1 S.2.1 dX9_looks_84 (by decide) ?_
          refine s_iast S hX G (i := 162) (kd := 284) (n := 270) (jn := 77) (a := d) (I' := (up I 162 (upd d 77 (0 : Int32)))) (rfl : sh 162 = 284) e_d (fun _ => rfl) (by decide) (by unfold vp_in; decide) (by decide) rfl dX9_looks_96 (fun H locs G => ?_)
          refine s_vret S G hr hlk dX9_looks_97 ?_
          exact ⟨rfl, (st_eq1 (Eq.trans up_eq (show (upd d 77 (0 : Int32)) = (lkF d 70) by subst ey_5 ey_3; simp [lkF, c_1, c_2, c_4, c_6])) (fun _ g0 => (up_ne g0))), rfl⟩
      · refine lv_iconst (v := (1 : Int32)) S.1 S.2.1 dX9_looks_54 (by decide) ?_
        refine lv_goto (tgt := 96) S.1 S.2.1 dX9_looks_55 (by decide) ?_
        refine s_iast S hX G (i := 162) (kd := 284) (n := 270) (jn := 77) (a := d) (I' := (up I 162 (upd d 77 (1 : Int32)))) (rfl : sh 162 = 284) e_d (fun _ => rfl) (by decide) (by unfold vp_in; decide) (by decide) rfl dX9_looks_96 (fun H locs G => ?_)
        refine s_vret S G hr hlk dX9_looks_97 ?_
        exact ⟨rfl, (st_eq1 (Eq.trans up_eq (show (upd d 77 (1 : Int32)) = (lkF d 70) by subst ey_3; simp [lkF, c_1, c_2, c_4])) (fun _ g0 => (up_ne g0))), rfl⟩
set_option maxHeartbeats 4000000 in
set_option maxRecDepth 100000 in
theorem k_X9_isSeen_1_0 (l : Launch) (E : Ev) {I : SI} {L : SL} (d : Nat → Int32) (e_d : I (162) = d) : CS l yX9_isSeen wsX9_isSeen ({ frames := 2, cells := 0, slots := 0, locals := 42 }) E [.ref (E.2.2.2 161), .int (1 : Int32), .int (0 : Int32)] I L (fun vv I' L' => vv = some (.int (if d 78 = 0 ∧ ¬ absM (d 74) < d 3 then 1 else 0)) ∧ I' = I ∧ L' = L) := by
  refine CS.of (cc := cX9_isSeen) (maxL := 4) (ret := (some .boolean)) (by decide) rfl (Nat.le_of_ble_eq_true rfl) ?_
  intro pg en sg mg below meth cg ls S hr hlk hX G hl
  have S : CallFix pg mg cg cX9_isSeen 4 sg _ wsX9_isSeen RX9 := S
  have hl : lv_has ls 4 [(0, .ref (E.2.2.2 161)), (1, .int (1 : Int32)), (2, .int (0 : Int32))] := hl
  refine lv_iload_n S.1 S.2.1 dX9_isSeen_0 rfl (lv_at hl 1 rfl) ?_
  refine s_callS (As := [.int (1 : Int32)]) (rest := []) S hX G (k_X9_loadAt_1 l E) (va_cwS (bytes := cX9_loadAt) (maxL := 1) (ret := (some .int)) 1 S.2.2.2.2 gX9_isSeen_X9_loadAt rfl rfl rfl (by decide +kernel) ⟨Nat.le_of_ble_eq_true rfl, Nat.le_of_ble_eq_true rfl⟩) rfl hl.1 rfl (Nat.le_of_ble_eq_true rfl) ⟨Nat.zero_le _, Nat.zero_le _⟩ dX9_isSeen_1 (fun v I1 L1 H locs hR G => ?_)
  obtain ⟨hv, hI, hL⟩ := hR
  subst hv
  have G : GS E I L sg H locs := G.same hI hL
  refine W.eq (g2 := F0 mg 4 ls [.int (70 : Int32)]) rfl ?_
  refine lv_istore_n (lv' := [(3, .int (70 : Int32)), (0, .ref (E.2.2.2 161)), (1, .int (1 : Int32)), (2, .int (0 : Int32))]) S.1 S.2.1 dX9_isSeen_4 rfl hl (by decide) rfl (fun ls hl => ?_)
  refine lv_iload_n S.1 S.2.1 dX9_isSeen_5 rfl (lv_at hl 3 rfl) ?_
  refine lv_lookup (off := 26) (tgt := 32) S.1 S.2.1 dX9_isSeen_6 (by decide) (by decide) (by decide) ?_
  refine lv_aload_n S.1 S.2.1 dX9_isSeen_32 rfl (lv_at hl 1 rfl) ?_
  refine s_get S hX G (i := 161) (kd := 9) (a := (I 161)) (v := .ref (E.2.2.2 162)) (C := RX9) (T := TX9) (N := 13) 0 (rfl : sh 161 = 9) rfl rfl rfl (by decide) rfl (fun _ h => (List.mem_cons_of_mem _ (List.mem_append_right _ h))) (by decide) (List.mem_of_getElem? (i := 1) rfl) (fun _ h => h) dX9_isSeen_33 ?_
  refine lv_iload_n S.1 S.2.1 dX9_isSeen_36 rfl (lv_at hl 0 rfl) ?_
  refine lv_bipush (v := (8 : Int32)) S.1 S.2.1 dX9_isSeen_37 (by decide) ?_
  refine s_iadd (v := (78 : Int32)) S dX9_isSeen_39 (by decide) ?_
  refine s_iald S hX G (i := 162) (kd := 284) (n := 270) (a := d) (x := (d 78)) (rfl : sh 162 = 284) e_d rfl (by decide) (by unfold vp_in; decide) (congrArg d (by decide)) dX9_isSeen_40 ?_
  refine lv_if_ne (tgt := 62) S.1 S.2.1 dX9_isSeen_41 (by decide) (fun c_1 => ?_) (fun c_1 => ?_)
  · refine lv_iconst (v := (0 : Int32)) S.1 S.2.1 dX9_isSeen_62 (by decide) ?_
    refine s_zret (x := (0 : Int32)) S G hr hlk dX9_isSeen_63 (Or.inl rfl) ?_
    exact ⟨(congrArg (fun q : Int32 => some (Value.int q)) (show (0 : Int32) = (if d 78 = 0 ∧ ¬ absM (d 74) < d 3 then 1 else 0) by first | (simp [c_1]; done) | (clear S hX G hl; grind []))), rfl, rfl⟩
  · refine lv_aload_n S.1 S.2.1 dX9_isSeen_44 rfl (lv_at hl 1 rfl) ?_
    refine lv_iload_n S.1 S.2.1 dX9_isSeen_45 rfl (lv_at hl 2 rfl) ?_
    refine s_callV (C := RX9) (As := [.int (1 : Int32)]) (rest := []) (i := 161) (kd := 9) S hX G (k_X9_sizeOf_1 l E d e_d) (cwV (bytes := cX9_sizeOf) (maxL := 3) (ret := (some .int)) 1 S.2.2.2.2 gX9_isSeen_X9_sizeOf rfl rfl rfl (by decide +kernel) ⟨Nat.le_of_ble_eq_true rfl, Nat.le_of_ble_eq_true rfl⟩) (rfl : sh 161 = 9) rfl rfl rfl (by decide) rfl hl.1 rfl (Nat.le_of_ble_eq_true rfl) ⟨Nat.zero_le _, Nat.zero_le _⟩ dX9_isSeen_46 (fun v I1 L1 H locs hR G => ?_)
    obtain ⟨hv, hI, hL⟩ := hR
    subst hv
    have G : GS E I L sg H locs := G.same hI hL
    refine W.eq (g2 := F0 mg 49 ls [.int (absM (d 74))]) rfl ?_
    refine lv_topi (fun y_2 ey_2 => ?_)
    refine lv_aload_n S.1 S.2.1 dX9_isSeen_49 rfl (lv_at hl 1 rfl) ?_
    refine s_get S hX G (i := 161) (kd := 9) (a := (I 161)) (v := .ref (E.2.2.2 162)) (C := RX9) (T := TX9) (N := 13) 0 (rfl : sh 161 = 9) rfl rfl rfl (by decide) rfl (fun _ h => (List.mem_cons_of_mem _ (List.mem_append_right _ h))) (by decide) (List.mem_of_getElem? (i := 1) rfl) (fun _ h => h) dX9_isSeen_50 ?_
    refine lv_iconst (v := (3 : Int32)) S.1 S.2.1 dX9_isSeen_53 (by decide) ?_
    refine s_iald S hX G (i := 162) (kd := 284) (n := 270) (a := d) (x := (d 3)) (rfl : sh 162 = 284) e_d rfl (by decide) (by unfold vp_in; decide) (congrArg d (by decide)) dX9_isSeen_54 ?_
    refine lv_icmp_lt (tgt := 62) S.1 S.2.1 dX9_isSeen_55 (by decide) (fun c_3 => ?_) (fun c_3 => ?_)
    · refine lv_iconst (v := (0 : Int32)) S.1 S.2.1 dX9_isSeen_62 (by decide) ?_
      refine s_zret (x := (0 : Int32)) S G hr hlk dX9_isSeen_63 (Or.inl rfl) ?_
      exact ⟨(congrArg (fun q : Int32 => some (Value.int q)) (show (0 : Int32) = (if d 78 = 0 ∧ ¬ absM (d 74) < d 3 then 1 else 0) by subst ey_2; (first | (simp [c_1, c_3]; done) | (clear S hX G hl; grind [])))), rfl, rfl⟩
    · refine lv_iconst (v := (1 : Int32)) S.1 S.2.1 dX9_isSeen_58 (by decide) ?_
      refine lv_goto (tgt := 63) S.1 S.2.1 dX9_isSeen_59 (by decide) ?_
      refine s_zret (x := (1 : Int32)) S G hr hlk dX9_isSeen_63 (Or.inr rfl) ?_
      exact ⟨(congrArg (fun q : Int32 => some (Value.int q)) (show (1 : Int32) = (if d 78 = 0 ∧ ¬ absM (d 74) < d 3 then 1 else 0) by subst ey_2; (first | (simp [c_1, c_3]; done) | (clear S hX G hl; grind [])))), rfl, rfl⟩
set_option maxHeartbeats 4000000 in
set_option maxRecDepth 100000 in
theorem k_X9_isSeen_1_1 (l : Launch) (E : Ev) {I : SI} {L : SL} (d : Nat → Int32) (e_d : I (162) = d) : CS l yX9_isSeen wsX9_isSeen ({ frames := 2, cells := 0, slots := 0, locals := 42 }) E [.ref (E.2.2.2 161), .int (1 : Int32), .int (1 : Int32)] I L (fun vv I' L' => vv = some (.int (if ¬ d 80 < d 4 ∧ ¬ d 70 ≤ absM (d 74) then 1 else 0)) ∧ I' = I ∧ L' = L) := by
  refine CS.of (cc := cX9_isSeen) (maxL := 4) (ret := (some .boolean)) (by decide) rfl (Nat.le_of_ble_eq_true rfl) ?_
  intro pg en sg mg below meth cg ls S hr hlk hX G hl
  have S : CallFix pg mg cg cX9_isSeen 4 sg _ wsX9_isSeen RX9 := S
  have hl : lv_has ls 4 [(0, .ref (E.2.2.2 161)), (1, .int (1 : Int32)), (2, .int (1 : Int32))] := hl
  refine lv_iload_n S.1 S.2.1 dX9_isSeen_0 rfl (lv_at hl 1 rfl) ?_
  refine s_callS (As := [.int (1 : Int32)]) (rest := []) S hX G (k_X9_loadAt_1 l E) (va_cwS (bytes := cX9_loadAt) (maxL := 1) (ret := (some .int)) 1 S.2.2.2.2 gX9_isSeen_X9_loadAt rfl rfl rfl (by decide +kernel) ⟨Nat.le_of_ble_eq_true rfl, Nat.le_of_ble_eq_true rfl⟩) rfl hl.1 rfl (Nat.le_of_ble_eq_true rfl) ⟨Nat.zero_le _, Nat.zero_le _⟩ dX9_isSeen_1 (fun v I1 L1 H locs hR G => ?_)
  obtain ⟨hv, hI, hL⟩ := hR
  subst hv
  have G : GS E I L sg H locs := G.same hI hL
  refine W.eq (g2 := F0 mg 4 ls [.int (70 : Int32)]) rfl ?_
  refine lv_istore_n (lv' := [(3, .int (70 : Int32)), (0, .ref (E.2.2.2 161)), (1, .int (1 : Int32)), (2, .int (1 : Int32))]) S.1 S.2.1 dX9_isSeen_4 rfl hl (by decide) rfl (fun ls hl => ?_)
  refine lv_iload_n S.1 S.2.1 dX9_isSeen_5 rfl (lv_at hl 3 rfl) ?_
  refine lv_lookup (off := 58) (tgt := 64) S.1 S.2.1 dX9_isSeen_6 (by decide) (by decide) (by decide) ?_
  refine lv_aload_n S.1 S.2.1 dX9_isSeen_64 rfl (lv_at hl 1 rfl) ?_
  refine s_get S hX G (i := 161) (kd := 9) (a := (I 161)) (v := .ref (E.2.2.2 162)) (C := RX9) (T := TX9) (N := 13) 0 (rfl : sh 161 = 9) rfl rfl rfl (by decide) rfl (fun _ h => (List.mem_cons_of_mem _ (List.mem_append_right _ h))) (by decide) (List.mem_of_getElem? (i := 1) rfl) (fun _ h => h) dX9_isSeen_65 ?_
  refine lv_iload_n S.1 S.2.1 dX9_isSeen_68 rfl (lv_at hl 0 rfl) ?_
  refine lv_bipush (v := (10 : Int32)) S.1 S.2.1 dX9_isSeen_69 (by decide) ?_
  refine s_iadd (v := (80 : Int32)) S dX9_isSeen_71 (by decide) ?_
  refine s_iald S hX G (i := 162) (kd := 284) (n := 270) (a := d) (x := (d 80)) (rfl : sh 162 = 284) e_d rfl (by decide) (by unfold vp_in; decide) (congrArg d (by decide)) dX9_isSeen_72 ?_
  refine lv_aload_n S.1 S.2.1 dX9_isSeen_73 rfl (lv_at hl 1 rfl) ?_
  refine s_get S hX G (i := 161) (kd := 9) (a := (I 161)) (v := .ref (E.2.2.2 162)) (C := RX9) (T := TX9) (N := 13) 0 (rfl : sh 161 = 9) rfl rfl rfl (by decide) rfl (fun _ h => (List.mem_cons_of_mem _ (List.mem_append_right _ h))) (by decide) (List.mem_of_getElem? (i := 1) rfl) (fun _ h => h) dX9_isSeen_74 ?_
  refine lv_iconst (v := (4 : Int32)) S.1 S.2.1 dX9_isSeen_77 (by decide) ?_
  refine s_iald S hX G (i := 162) (kd := 284) (n := 270) (a := d) (x := (d 4)) (rfl : sh 162 = 284) e_d rfl (by decide) (by unfold vp_in; decide) (congrArg d (by decide)) dX9_isSeen_78 ?_
  refine lv_icmp_lt (tgt := 102) S.1 S.2.1 dX9_isSeen_79 (by decide) (fun c_1 => ?_) (fun c_1 => ?_)
  · refine lv_iconst (v := (0 : Int32)) S.1 S.2.1 dX9_isSeen_102 (by decide) ?_
    refine s_zret (x := (0 : Int32)) S G hr hlk dX9_isSeen_103 (Or.inl rfl) ?_
    exact ⟨(congrArg (fun q : Int32 => some (Value.int q)) (show (0 : Int32) = (if ¬ d 80 < d 4 ∧ ¬ d 70 ≤ absM (d 74) then 1 else 0) by first | (simp [c_1]; done) | (clear S hX G hl; grind []))), rfl, rfl⟩
  · refine lv_aload_n S.1 S.2.1 dX9_isSeen_82 rfl (lv_at hl 1 rfl) ?_
    refine lv_iload_n S.1 S.2.1 dX9_isSeen_83 rfl (lv_at hl 2 rfl) ?_
    refine s_callV (C := RX9) (As := [.int (1 : Int32)]) (rest := []) (i := 161) (kd := 9) S hX G (k_X9_sizeOf_1 l E d e_d) (cwV (bytes := cX9_sizeOf) (maxL := 3) (ret := (some .int)) 1 S.2.2.2.2 gX9_isSeen_X9_sizeOf rfl rfl rfl (by decide +kernel) ⟨Nat.le_of_ble_eq_true rfl, Nat.le_of_ble_eq_true rfl⟩) (rfl : sh 161 = 9) rfl rfl rfl (by decide) rfl hl.1 rfl (Nat.le_of_ble_eq_true rfl) ⟨Nat.zero_le _, Nat.zero_le _⟩ dX9_isSeen_84 (fun v I1 L1 H locs hR G => ?_)
    obtain ⟨hv, hI, hL⟩ := hR
    subst hv
    have G : GS E I L sg H locs := G.same hI hL
    refine W.eq (g2 := F0 mg 87 ls [.int (absM (d 74))]) rfl ?_
    refine lv_topi (fun y_2 ey_2 => ?_)
    refine lv_aload_n S.1 S.2.1 dX9_isSeen_87 rfl (lv_at hl 1 rfl) ?_
    refine s_get S hX G (i := 161) (kd := 9) (a := (I 161)) (v := .ref (E.2.2.2 162)) (C := RX9) (T := TX9) (N := 13) 0 (rfl : sh 161 = 9) rfl rfl rfl (by decide) rfl (fun _ h => (List.mem_cons_of_mem _ (List.mem_append_right _ h))) (by decide) (List.mem_of_getElem? (i := 1) rfl) (fun _ h => h) dX9_isSeen_88 ?_
    refine lv_iload_n S.1 S.2.1 dX9_isSeen_91 rfl (lv_at hl 0 rfl) ?_
    refine lv_iconst (v := (0 : Int32)) S.1 S.2.1 dX9_isSeen_92 (by decide) ?_
    refine s_iadd (v := (70 : Int32)) S dX9_isSeen_93 (by decide) ?_
    refine s_iald S hX G (i := 162) (kd := 284) (n := 270) (a := d) (x := (d 70)) (rfl : sh 162 = 284) e_d rfl (by decide) (by unfold vp_in; decide) (congrArg d (by decide)) dX9_isSeen_94 ?_
    refine lv_icmp_ge (tgt := 102) S.1 S.2.1 dX9_isSeen_95 (by decide) (fun c_3 => ?_) (fun c_3 => ?_)
    · refine lv_iconst (v := (0 : Int32)) S.1 S.2.1 dX9_isSeen_102 (by decide) ?_
      refine s_zret (x := (0 : Int32)) S G hr hlk dX9_isSeen_103 (Or.inl rfl) ?_
      exact ⟨(congrArg (fun q : Int32 => some (Value.int q)) (show (0 : Int32) = (if ¬ d 80 < d 4 ∧ ¬ d 70 ≤ absM (d 74) then 1 else 0) by subst ey_2; (first | (simp [c_1, c_3]; done) | (clear S hX G hl; grind [])))), rfl, rfl⟩
    · refine lv_iconst (v := (1 : Int32)) S.1 S.2.1 dX9_isSeen_98 (by decide) ?_
      refine lv_goto (tgt := 103) S.1 S.2.1 dX9_isSeen_99 (by decide) ?_
      refine s_zret (x := (1 : Int32)) S G hr hlk dX9_isSeen_103 (Or.inr rfl) ?_
      exact ⟨(congrArg (fun q : Int32 => some (Value.int q)) (show (1 : Int32) = (if ¬ d 80 < d 4 ∧ ¬ d 70 ≤ absM (d 74) then 1 else 0) by subst ey_2; (first | (simp [c_1, c_3]; done) | (clear S hX G hl; grind [])))), rfl, rfl⟩
set_option maxHeartbeats 4000000 in
set_option maxRecDepth 100000 in
theorem k_X9_isSeen_1_2 (l : Launch) (E : Ev) {I : SI} {L : SL} (d : Nat → Int32) (e_d : I (162) = d) : CS l yX9_isSeen wsX9_isSeen ({ frames := 1, cells := 0, slots := 0, locals := 20 }) E [.ref (E.2.2.2 161), .int (1 : Int32), .int (2 : Int32)] I L (fun vv I' L' => vv = some (.int (if ¬ d 75 < d 5 then 1 else 0)) ∧ I' = I ∧ L' = L) := by
  refine CS.of (cc := cX9_isSeen) (maxL := 4) (ret := (some .boolean)) (by decide) rfl (Nat.le_of_ble_eq_true rfl) ?_
  intro pg en sg mg below meth cg ls S hr hlk hX G hl
  have S : CallFix pg mg cg cX9_isSeen 4 sg _ wsX9_isSeen RX9 := S
  have hl : lv_has ls 4 [(0, .ref (E.2.2.2 161)), (1, .int (1 : Int32)), (2, .int (2 : Int32))] := hl
  refine lv_iload_n S.1 S.2.1 dX9_isSeen_0 rfl (lv_at hl 1 rfl) ?_
  refine s_callS (As := [.int (1 : Int32)]) (rest := []) S hX G (k_X9_loadAt_1 l E) (va_cwS (bytes := cX9_loadAt) (maxL := 1) (ret := (some .int)) 1 S.2.2.2.2 gX9_isSeen_X9_loadAt rfl rfl rfl (by decide +kernel) ⟨Nat.le_of_ble_eq_true rfl, Nat.le_of_ble_eq_true rfl⟩) rfl hl.1 rfl (Nat.le_of_ble_eq_true rfl) ⟨Nat.zero_le _, Nat.zero_le _⟩ dX9_isSeen_1 (fun v I1 L1 H locs hR G => ?_)
  obtain ⟨hv, hI, hL⟩ := hR
  subst hv
  have G : GS E I L sg H locs := G.same hI hL
  refine W.eq (g2 := F0 mg 4 ls [.int (70 : Int32)]) rfl ?_
  refine lv_istore_n (lv' := [(3, .int (70 : Int32)), (0, .ref (E.2.2.2 161)), (1, .int (1 : Int32)), (2, .int (2 : Int32))]) S.1 S.2.1 dX9_isSeen_4 rfl hl (by decide) rfl (fun ls hl => ?_)
  refine lv_iload_n S.1 S.2.1 dX9_isSeen_5 rfl (lv_at hl 3 rfl) ?_
  refine lv_lookup (off := 98) (tgt := 104) S.1 S.2.1 dX9_isSeen_6 (by decide) (by decide) (by decide) ?_
  refine lv_aload_n S.1 S.2.1 dX9_isSeen_104 rfl (lv_at hl 1 rfl) ?_
  refine s_get S hX G (i := 161) (kd := 9) (a := (I 161)) (v := .ref (E.2.2.2 162)) (C := RX9) (T := TX9) (N := 13) 0 (rfl : sh 161 = 9) rfl rfl rfl (by decide) rfl (fun _ h => (List.mem_cons_of_mem _ (List.mem_append_right _ h))) (by decide) (List.mem_of_getElem? (i := 1) rfl) (fun _ h => h) dX9_isSeen_105 ?_
  refine lv_iload_n S.1 S.2.1 dX9_isSeen_108 rfl (lv_at hl 0 rfl) ?_
  refine lv_iconst (v := (5 : Int32)) S.1 S.2.1 dX9_isSeen_109 (by decide) ?_
  refine s_iadd (v := (75 : Int32)) S dX9_isSeen_110 (by decide) ?_
  refine s_iald S hX G (i := 162) (kd := 284) (n := 270) (a := d) (x := (d 75)) (rfl : sh 162 = 284) e_d rfl (by decide) (by unfold vp_in; decide) (congrArg d (by decide)) dX9_isSeen_111 ?_
  refine lv_aload_n S.1 S.2.1 dX9_isSeen_112 rfl (lv_at hl 1 rfl) ?_
  refine s_get S hX G (i := 161) (kd := 9) (a := (I 161)) (v := .ref (E.2.2.2 162)) (C := RX9) (T := TX9) (N := 13) 0 (rfl : sh 161 = 9) rfl rfl rfl (by decide) rfl (fun _ h => (List.mem_cons_of_mem _ (List.mem_append_right _ h))) (by decide) (List.mem_of_getElem? (i := 1) rfl) (fun _ h => h) dX9_isSeen_113 ?_
  refine lv_iconst (v := (5 : Int32)) S.1 S.2.1 dX9_isSeen_116 (by decide) ?_
  refine s_iald S hX G (i := 162) (kd := 284) (n := 270) (a := d) (x := (d 5)) (rfl : sh 162 = 284) e_d rfl (by decide) (by unfold vp_in; decide) (congrArg d (by decide)) dX9_isSeen_117 ?_
  refine lv_icmp_lt (tgt := 125) S.1 S.2.1 dX9_isSeen_118 (by decide) (fun c_1 => ?_) (fun c_1 => ?_)
  · refine lv_iconst (v := (0 : Int32)) S.1 S.2.1 dX9_isSeen_125 (by decide) ?_
    refine s_zret (x := (0 : Int32)) S G hr hlk dX9_isSeen_126 (Or.inl rfl) ?_
    exact ⟨(congrArg (fun q : Int32 => some (Value.int q)) (show (0 : Int32) = (if ¬ d 75 < d 5 then 1 else 0) by first | (simp [c_1]; done) | (clear S hX G hl; grind []))), rfl, rfl⟩
  · refine lv_iconst (v := (1 : Int32)) S.1 S.2.1 dX9_isSeen_121 (by decide) ?_
    refine lv_goto (tgt := 126) S.1 S.2.1 dX9_isSeen_122 (by decide) ?_
    refine s_zret (x := (1 : Int32)) S G hr hlk dX9_isSeen_126 (Or.inr rfl) ?_
    exact ⟨(congrArg (fun q : Int32 => some (Value.int q)) (show (1 : Int32) = (if ¬ d 75 < d 5 then 1 else 0) by first | (simp [c_1]; done) | (clear S hX G hl; grind []))), rfl, rfl⟩
