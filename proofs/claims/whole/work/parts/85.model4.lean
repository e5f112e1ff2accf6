def i0M (d : Nat → Int32) (L : Nat) : Int32 := if ¬ ¬ d (L + 12) = -1 ∧ (d (L + 8) = 0 ∧ ¬ absM (d (L + 4)) < d 3) then 1 else 0
def i1M (d : Nat → Int32) (L : Nat) : Int32 := if ¬ ¬ d (L + 15) = -1 ∧ (¬ d (L + 10) < d 4 ∧ ¬ d L ≤ absM (d (L + 4))) then 1 else 0
def i2M (d : Nat → Int32) (L : Nat) : Int32 := if ¬ ¬ d (L + 18) = -1 ∧ (¬ d (L + 5) < d 5) then 1 else 0
def lt0M (d : Nat → Int32) (L : Nat) : Nat → Int32 := ltF d L 0 (¬ ¬ d (L + 12) = -1 ∧ (d (L + 8) = 0 ∧ ¬ absM (d (L + 4)) < d 3))
def lt1M (d : Nat → Int32) (L : Nat) : Nat → Int32 := ltF d L 1 (¬ ¬ d (L + 15) = -1 ∧ (¬ d (L + 10) < d 4 ∧ ¬ d L ≤ absM (d (L + 4))))
def lt2M (d : Nat → Int32) (L : Nat) : Nat → Int32 := ltF d L 2 (¬ ¬ d (L + 18) = -1 ∧ (¬ d (L + 5) < d 5))
def latM (d : Nat → Int32) (L : Nat) : Nat → Int32 := lt2M (lt1M (lt0M d L) L) L
def latR (d : Nat → Int32) (L : Nat) : Int32 := 0 + i0M d L + i1M (lt0M d L) L + i2M (lt1M (lt0M d L) L) L
def kpA (d : Nat → Int32) : Nat → Int32 := if 32 ≤ d 102 then d else upd d 102 (d 102 + 1)
def shs (d : Nat → Int32) (k : Nat) : Nat → Int32 := fun z => if 110 + k < z ∧ z ≤ 269 then d (z - 5) else d z
theorem shs_0 (d : Nat → Int32) : shs d 159 = d := by
  funext z
  unfold shs
  rw [if_neg (by omega)]
theorem shs_s (d : Nat → Int32) (q : Nat) (hq : q < 155) : upd (shs d (q + 5)) (110 + (q + 5)) (shs d (q + 5) (105 + (q + 5))) = shs d (q + 4) := by
  funext z
  unfold upd shs
  by_cases h : z = 110 + (q + 5)
  · subst h
    rw [if_pos rfl, if_neg (by omega), if_pos (by omega)]
    congr 1
    omega
  · rw [if_neg h]
    by_cases h2 : 110 + (q + 5) < z ∧ z ≤ 269
    · rw [if_pos h2, if_pos (by omega)]
    · rw [if_neg h2, if_neg (by omega)]
def kpF (d : Nat → Int32) : Nat → Int32 :=
  let s := shs (kpA d) 4
  upd (upd (upd (upd (upd s 110 (s 0)) 111 (s 44)) 112 (s 74)) 113 (s 9 + 3 * s 17 + 9 * s 25 + 27 * s 33)) 114 (s 47 + 2 * s 77)
set_option maxHeartbeats 4000000 in
set_option maxRecDepth 100000 in
theorem k_X9_latches_0 (l : Launch) (E : Ev) {I : SI} {L : SL} (d : Nat → Int32) (e_d : I (162) = d) : CS l yX9_latches wsX9_latches ({ frames := 3, cells := 0, slots := 0, locals := 65 }) E [.ref (E.2.2.2 161), .int (0 : Int32)] I L (fun vv I' L' => vv = some (.int (latR d 40)) ∧ I' = (up I (162) (latM d 40)) ∧ L' = L) := by
  refine CS.of (cc := cX9_latches) (maxL := 5) (ret := (some .int)) (by decide) rfl (Nat.le_of_ble_eq_true rfl) ?_
  intro pg en sg mg below meth cg ls S hr hlk hX G hl
  have S : CallFix pg mg cg cX9_latches 5 sg _ wsX9_latches RX9 := S
  have hl : lv_has ls 5 [(0, .ref (E.2.2.2 161)), (1, .int (0 : Int32))] := hl
  refine lv_iload_n S.1 S.2.1 dX9_latches_0 rfl (lv_at hl 1 rfl) ?_
  refine s_callS (As := [.int (0 : Int32)]) (rest := []) S hX G (k_X9_loadAt_0 l E) (va_cwS (bytes := cX9_loadAt) (maxL := 1) (ret := (some .int)) 1 S.2.2.2.2 gX9_latches_X9_loadAt rfl rfl rfl (by decide +kernel) ⟨Nat.le_of_ble_eq_true rfl, Nat.le_of_ble_eq_true rfl⟩) rfl hl.1 rfl (Nat.le_of_ble_eq_true rfl) ⟨Nat.zero_le _, Nat.zero_le _⟩ dX9_latches_1 (fun v I1 L1 H locs hR G => ?_)
  obtain ⟨hv, hI, hL⟩ := hR
  subst hv
  have G : GS E I L sg H locs := G.same hI hL
  refine W.eq (g2 := F0 mg 4 ls [.int (40 : Int32)]) rfl ?_
  refine lv_istore_n (lv' := [(2, .int (40 : Int32)), (0, .ref (E.2.2.2 161)), (1, .int (0 : Int32))]) S.1 S.2.1 dX9_latches_4 rfl hl (by decide) rfl (fun ls hl => ?_)
  refine lv_iconst (v := (0 : Int32)) S.1 S.2.1 dX9_latches_5 (by decide) ?_
  refine lv_istore_n (lv' := [(3, .int (0 : Int32)), (2, .int (40 : Int32)), (0, .ref (E.2.2.2 161)), (1, .int (0 : Int32))]) S.1 S.2.1 dX9_latches_6 rfl hl (by decide) rfl (fun ls hl => ?_)
  refine lv_iconst (v := (0 : Int32)) S.1 S.2.1 dX9_latches_7 (by decide) ?_
  refine lv_istore (lv' := [(4, .int (0 : Int32)), (3, .int (0 : Int32)), (2, .int (40 : Int32)), (0, .ref (E.2.2.2 161)), (1, .int (0 : Int32))]) S.1 S.2.1 dX9_latches_8 hl (by decide) rfl (fun ls hl => ?_)
  refine s_cut (α := Int32) (nL := 5) (E := E) (fun x I' L' => x = ((0 : Int32) + i0M d 40) ∧ I' = (up I 162 (lt0M d 40)) ∧ L' = L) (fun x => [(4, .int (1 : Int32)), (3, .int x), (2, .int (40 : Int32)), (0, .ref (E.2.2.2 161)), (1, .int (0 : Int32))]) 10 (fun x => []) (fun kJ_1 => ?_) (fun x I1 L1 H locs ls hP G hl => ?_)
  · refine lv_iload S.1 S.2.1 dX9_latches_10 (lv_at hl 0 rfl) ?_
    refine lv_iconst (v := (3 : Int32)) S.1 S.2.1 dX9_latches_12 (by decide) ?_
    refine lv_icmp_ge (tgt := 127) S.1 S.2.1 dX9_latches_13 (by decide) (fun h => absurd h (by decide)) (fun _ => ?_)
    refine lv_aload_n S.1 S.2.1 dX9_latches_16 rfl (lv_at hl 3 rfl) ?_
    refine lv_iload_n S.1 S.2.1 dX9_latches_17 rfl (lv_at hl 4 rfl) ?_
    refine lv_iload S.1 S.2.1 dX9_latches_18 (lv_at hl 0 rfl) ?_
    refine s_callV (C := RX9) (As := [.int (0 : Int32), .int (0 : Int32)]) (rest := []) (i := 161) (kd := 9) S hX G (k_X9_isLatched_0_0 l E d e_d) (cwV (bytes := cX9_isLatched) (maxL := 3) (ret := (some .boolean)) 2 S.2.2.2.2 gX9_latches_X9_isLatched rfl rfl rfl (by decide +kernel) ⟨Nat.le_of_ble_eq_true rfl, Nat.le_of_ble_eq_true rfl⟩) (rfl : sh 161 = 9) rfl rfl rfl (by decide) rfl hl.1 rfl (Nat.le_of_ble_eq_true rfl) ⟨Nat.zero_le _, Nat.zero_le _⟩ dX9_latches_20 (fun v I1 L1 H locs hR G => ?_)
    obtain ⟨hv, hI, hL⟩ := hR
    subst hv
    have G : GS E I L sg H locs := G.same hI hL
    refine W.eq (g2 := F0 mg 23 ls [.int (if ¬ d 52 = -1 then 1 else 0)]) rfl ?_
    refine s_if_ne_b (P := ¬ d 52 = -1) (tgt := 121) S dX9_latches_23 (by decide) (fun c_2 => ?_) (fun c_2 => ?_)
    · refine lv_iinc (v := (1 : Int32)) (lv' := [(4, .int (1 : Int32)), (3, .int (0 : Int32)), (2, .int (40 : Int32)), (0, .ref (E.2.2.2 161)), (1, .int (0 : Int32))]) S.1 S.2.1 dX9_latches_121 hl (k := 0) rfl (by decide) (by decide) rfl (fun ls hl => ?_)
      refine lv_goto (tgt := 10) S.1 S.2.1 dX9_latches_124 (by decide) ?_
      exact kJ_1 (0 : Int32) _ _ _ _ _ ⟨(show (0 : Int32) = (0 : Int32) + i0M d 40 by first | exact ite_n (fun q => q.1 c_2) _ | exact ite_z0 (fun q => q.1 c_2) | exact (ltF_n (fun q => q.1 c_2)).symm), (st_eq1 (Eq.trans e_d (show d = (lt0M d 40) by first | exact ite_n (fun q => q.1 c_2) _ | exact ite_z0 (fun q => q.1 c_2) | exact (ltF_n (fun q => q.1 c_2)).symm)) (fun _ g0 => rfl)), rfl⟩ G (lv_sub hl [0, 1, 2, 3, 4] rfl)
    · refine lv_aload_n S.1 S.2.1 dX9_latches_26 rfl (lv_at hl 3 rfl) ?_
      refine lv_iload_n S.1 S.2.1 dX9_latches_27 rfl (lv_at hl 4 rfl) ?_
      refine lv_iload S.1 S.2.1 dX9_latches_28 (lv_at hl 0 rfl) ?_
      refine s_callV (C := RX9) (As := [.int (0 : Int32), .int (0 : Int32)]) (rest := []) (i := 161) (kd := 9) S hX G (k_X9_isSeen_0_0 l E d e_d) (cwV (bytes := cX9_isSeen) (maxL := 4) (ret := (some .boolean)) 2 S.2.2.2.2 gX9_latches_X9_isSeen rfl rfl rfl (by decide +kernel) ⟨Nat.le_of_ble_eq_true rfl, Nat.le_of_ble_eq_true rfl⟩) (rfl : sh 161 = 9) rfl rfl rfl (by decide) rfl hl.1 rfl (Nat.le_of_ble_eq_true rfl) ⟨Nat.zero_le _, Nat.zero_le _⟩ dX9_latches_30 (fun v I1 L1 H locs hR G => ?_)
      obtain ⟨hv, hI, hL⟩ := hR
      subst hv
      have G : GS E I L sg H locs := G.same hI hL
      refine W.eq (g2 := F0 mg 33 ls [.int (if d 48 = 0 ∧ ¬ absM (d 44) < d 3 then 1 else 0)]) rfl ?_
      refine s_if_eq_b (P := d 48 = 0 ∧ ¬ absM (d 44) < d 3) (tgt := 121) S dX9_latches_33 (by decide) (fun c_3 => ?_) (fun c_3 => ?_)
      · refine lv_iinc (v := (1 : Int32)) (lv' := [(4, .int (1 : Int32)), (3, .int (0 : Int32)), (2, .int (40 : Int32)), (0, .ref (E.2.2.2 161)), (1, .int (0 : Int32))]) S.1 S.2.1 dX9_latches_121 hl (k := 0) rfl (by decide) (by decide) rfl (fun ls hl => ?_)
        refine lv_goto (tgt := 10) S.1 S.2.1 dX9_latches_124 (by decide) ?_
        exact kJ_1 (0 : Int32) _ _ _ _ _ ⟨(show (0 : Int32) = (0 : Int32) + i0M d 40 by first | exact ite_n (fun q => c_3 q.2) _ | exact ite_z0 (fun q => c_3 q.2) | exact (ltF_n (fun q => c_3 q.2)).symm), (st_eq1 (Eq.trans e_d (show d = (lt0M d 40) by first | exact ite_n (fun q => c_3 q.2) _ | exact ite_z0 (fun q => c_3 q.2) | exact (ltF_n (fun q => c_3 q.2)).symm)) (fun _ g0 => rfl)), rfl⟩ G (lv_sub hl [0, 1, 2, 3, 4] rfl)
      · refine lv_aload_n S.1 S.2.1 dX9_latches_36 rfl (lv_at hl 3 rfl) ?_
        refine s_get S hX G (i := 161) (kd := 9) (a := (I 161)) (v := .ref (E.2.2.2 162)) (C := RX9) (T := TX9) (N := 13) 0 (rfl : sh 161 = 9) rfl rfl rfl (by decide) rfl (fun _ h => (List.mem_cons_of_mem _ (List.mem_append_right _ h))) (by decide) (List.mem_of_getElem? (i := 1) rfl) (fun _ h => h) dX9_latches_37 ?_
        refine lv_iload_n S.1 S.2.1 dX9_latches_40 rfl (lv_at hl 2 rfl) ?_
        refine lv_bipush (v := (12 : Int32)) S.1 S.2.1 dX9_latches_41 (by decide) ?_
        refine s_iadd (v := (52 : Int32)) S dX9_latches_43 (by decide) ?_
        refine lv_iconst (v := (3 : Int32)) S.1 S.2.1 dX9_latches_44 (by decide) ?_
        refine lv_iload S.1 S.2.1 dX9_latches_45 (lv_at hl 0 rfl) ?_
        refine s_imul (v := (0 : Int32)) S dX9_latches_47 (by decide) ?_
        refine s_iadd (v := (52 : Int32)) S dX9_latches_48 (by decide) ?_
        refine lv_aload_n S.1 S.2.1 dX9_latches_49 rfl (lv_at hl 3 rfl) ?_
        refine s_get S hX G (i := 161) (kd := 9) (a := (I 161)) (v := .ref (E.2.2.2 162)) (C := RX9) (T := TX9) (N := 13) 0 (rfl : sh 161 = 9) rfl rfl rfl (by decide) rfl (fun _ h => (List.mem_cons_of_mem _ (List.mem_append_right _ h))) (by decide) (List.mem_of_getElem? (i := 1) rfl) (fun _ h => h) dX9_latches_50 ?_
        refine lv_iconst (v := (0 : Int32)) S.1 S.2.1 dX9_latches_53 (by decide) ?_
        refine s_iald S hX G (i := 162) (kd := 284) (n := 270) (a := d) (x := (d 0)) (rfl : sh 162 = 284) e_d rfl (by decide) (by unfold vp_in; decide) (congrArg d (by decide)) dX9_latches_54 ?_
        refine s_iast S hX G (i := 162) (kd := 284) (n := 270) (jn := 52) (a := d) (I' := (up I 162 (upd d 52 (d 0)))) (rfl : sh 162 = 284) e_d (fun _ => rfl) (by decide) (by unfold vp_in; decide) (by decide) rfl dX9_latches_55 (fun H locs G => ?_)
        refine lv_aload_n S.1 S.2.1 dX9_latches_56 rfl (lv_at hl 3 rfl) ?_
        refine s_get S hX G (i := 161) (kd := 9) (a := (I 161)) (v := .ref (E.2.2.2 162)) (C := RX9) (T := TX9) (N := 13) 0 (rfl : sh 161 = 9) (up_ne (by decide)) rfl rfl (by decide) rfl (fun _ h => (List.mem_cons_of_mem _ (List.mem_append_right _ h))) (by decide) (List.mem_of_getElem? (i := 1) rfl) (fun _ h => h) dX9_latches_57 ?_
        refine lv_iload_n S.1 S.2.1 dX9_latches_60 rfl (lv_at hl 2 rfl) ?_
        refine lv_bipush (v := (12 : Int32)) S.1 S.2.1 dX9_latches_61 (by decide) ?_
        refine s_iadd (v := (52 : Int32)) S dX9_latches_63 (by decide) ?_
        refine lv_iconst (v := (3 : Int32)) S.1 S.2.1 dX9_latches_64 (by decide) ?_
        refine lv_iload S.1 S.2.1 dX9_latches_65 (lv_at hl 0 rfl) ?_
        refine s_imul (v := (0 : Int32)) S dX9_latches_67 (by decide) ?_
        refine s_iadd (v := (52 : Int32)) S dX9_latches_68 (by decide) ?_
        refine lv_iconst (v := (1 : Int32)) S.1 S.2.1 dX9_latches_69 (by decide) ?_
        refine s_iadd (v := (53 : Int32)) S dX9_latches_70 (by decide) ?_
        refine lv_aload_n S.1 S.2.1 dX9_latches_71 rfl (lv_at hl 3 rfl) ?_
        refine s_get S hX G (i := 161) (kd := 9) (a := (I 161)) (v := .ref (E.2.2.2 162)) (C := RX9) (T := TX9) (N := 13) 0 (rfl : sh 161 = 9) (up_ne (by decide)) rfl rfl (by decide) rfl (fun _ h => (List.mem_cons_of_mem _ (List.mem_append_right _ h))) (by decide) (List.mem_of_getElem? (i := 1) rfl) (fun _ h => h) dX9_latches_72 ?_
        refine lv_iload_n S.1 S.2.1 dX9_latches_75 rfl (lv_at hl 2 rfl) ?_
        refine lv_iconst (v := (4 : Int32)) S.1 S.2.1 dX9_latches_76 (by decide) ?_
        refine s_iadd (v := (44 : Int32)) S dX9_latches_77 (by decide) ?_
        refine s_iald S hX G (i := 162) (kd := 284) (n := 270) (a := (upd d 52 (d 0))) (x := (d 44)) (rfl : sh 162 = 284) up_eq rfl (by decide) (by unfold vp_in; decide) (show (upd d 52 (d 0)) (Int32.toNatClampNeg (44 : Int32)) = (d 44) from congrArg (upd d 52 (d 0)) (show Int32.toNatClampNeg (44 : Int32) = 44 from (by decide))) dX9_latches_78 ?_
        refine s_iast S hX G (i := 162) (kd := 284) (n := 270) (jn := 53) (a := (upd d 52 (d 0))) (I' := (up I 162 (upd (upd d 52 (d 0)) 53 (d 44)))) (rfl : sh 162 = 284) up_eq (fun _ => rfl) (by decide) (by unfold vp_in; decide) (by decide) (by rw [up_up]) dX9_latches_79 (fun H locs G => ?_)
        refine lv_aload_n S.1 S.2.1 dX9_latches_80 rfl (lv_at hl 3 rfl) ?_
        refine s_get S hX G (i := 161) (kd := 9) (a := (I 161)) (v := .ref (E.2.2.2 162)) (C := RX9) (T := TX9) (N := 13) 0 (rfl : sh 161 = 9) (up_ne (by decide)) rfl rfl (by decide) rfl (fun _ h => (List.mem_cons_of_mem _ (List.mem_append_right _ h))) (by decide) (List.mem_of_getElem? (i := 1) rfl) (fun _ h => h) dX9_latches_81 ?_
        refine lv_iload_n S.1 S.2.1 dX9_latches_84 rfl (lv_at hl 2 rfl) ?_
        refine lv_bipush (v := (12 : Int32)) S.1 S.2.1 dX9_latches_85 (by decide) ?_
        refine s_iadd (v := (52 : Int32)) S dX9_latches_87 (by decide) ?_
        refine lv_iconst (v := (3 : Int32)) S.1 S.2.1 dX9_latches_88 (by decide) ?_
        refine lv_iload S.1 S.2.1 dX9_latches_89 (lv_at hl 0 rfl) ?_
        refine s_imul (v := (0 : Int32)) S dX9_latches_91 (by decide) ?_
        refine s_iadd (v := (52 : Int32)) S dX9_latches_92 (by decide) ?_
        refine lv_iconst (v := (2 : Int32)) S.1 S.2.1 dX9_latches_93 (by decide) ?_
        refine s_iadd (v := (54 : Int32)) S dX9_latches_94 (by decide) ?_
        refine lv_aload_n S.1 S.2.1 dX9_latches_95 rfl (lv_at hl 3 rfl) ?_
        refine s_get S hX G (i := 161) (kd := 9) (a := (I 161)) (v := .ref (E.2.2.2 162)) (C := RX9) (T := TX9) (N := 13) 0 (rfl : sh 161 = 9) (up_ne (by decide)) rfl rfl (by decide) rfl (fun _ h => (List.mem_cons_of_mem _ (List.mem_append_right _ h))) (by decide) (List.mem_of_getElem? (i := 1) rfl) (fun _ h => h) dX9_latches_96 ?_
        refine lv_iload_n S.1 S.2.1 dX9_latches_99 rfl (lv_at hl 2 rfl) ?_
        refine lv_bipush (v := (21 : Int32)) S.1 S.2.1 dX9_latches_100 (by decide) ?_
        refine s_iadd (v := (61 : Int32)) S dX9_latches_102 (by decide) ?_
        refine s_iald S hX G (i := 162) (kd := 284) (n := 270) (a := (upd (upd d 52 (d 0)) 53 (d 44))) (x := (d 61)) (rfl : sh 162 = 284) up_eq rfl (by decide) (by unfold vp_in; decide) (show (upd (upd d 52 (d 0)) 53 (d 44)) (Int32.toNatClampNeg (61 : Int32)) = (d 61) from congrArg (upd (upd d 52 (d 0)) 53 (d 44)) (show Int32.toNatClampNeg (61 : Int32) = 61 from (by decide))) dX9_latches_103 ?_
        refine s_iast S hX G (i := 162) (kd := 284) (n := 270) (jn := 54) (a := (upd (upd d 52 (d 0)) 53 (d 44))) (I' := (up I 162 (upd (upd (upd d 52 (d 0)) 53 (d 44)) 54 (d 61)))) (rfl : sh 162 = 284) up_eq (fun _ => rfl) (by decide) (by unfold vp_in; decide) (by decide) (by rw [up_up]) dX9_latches_104 (fun H locs G => ?_)
        refine lv_aload_n S.1 S.2.1 dX9_latches_105 rfl (lv_at hl 3 rfl) ?_
        refine s_get S hX G (i := 161) (kd := 9) (a := (I 161)) (v := .ref (E.2.2.2 162)) (C := RX9) (T := TX9) (N := 13) 0 (rfl : sh 161 = 9) (up_ne (by decide)) rfl rfl (by decide) rfl (fun _ h => (List.mem_cons_of_mem _ (List.mem_append_right _ h))) (by decide) (List.mem_of_getElem? (i := 1) rfl) (fun _ h => h) dX9_latches_106 ?_
        refine lv_iload_n S.1 S.2.1 dX9_latches_109 rfl (lv_at hl 2 rfl) ?_
        refine lv_bipush (v := (21 : Int32)) S.1 S.2.1 dX9_latches_110 (by decide) ?_
        refine s_iadd (v := (61 : Int32)) S dX9_latches_112 (by decide) ?_
        refine lv_dup2_11 S.1 S.2.1 dX9_latches_113 rfl rfl ?_
        refine s_iald S hX G (i := 162) (kd := 284) (n := 270) (a := (upd (upd (upd d 52 (d 0)) 53 (d 44)) 54 (d 61))) (x := (d 61)) (rfl : sh 162 = 284) up_eq rfl (by decide) (by unfold vp_in; decide) (show (upd (upd (upd d 52 (d 0)) 53 (d 44)) 54 (d 61)) (Int32.toNatClampNeg (61 : Int32)) = (d 61) from congrArg (upd (upd (upd d 52 (d 0)) 53 (d 44)) 54 (d 61)) (show Int32.toNatClampNeg (61 : Int32) = 61 from (by decide))) dX9_latches_114 ?_
        refine lv_iconst (v := (1 : Int32)) S.1 S.2.1 dX9_latches_115 (by decide) ?_
        refine s_iadd (v := ((d 61) + (1 : Int32))) S dX9_latches_116 rfl ?_
        refine lv_topi (fun y_4 ey_4 => ?_)
        refine s_iast S hX G (i := 162) (kd := 284) (n := 270) (jn := 61) (a := (upd (upd (upd d 52 (d 0)) 53 (d 44)) 54 (d 61))) (I' := (up I 162 (upd (upd (upd (upd d 52 (d 0)) 53 (d 44)) 54 (d 61)) 61 y_4))) (rfl : sh 162 = 284) up_eq (fun _ => rfl) (by decide) (by unfold vp_in; decide) (by decide) (by rw [up_up]) dX9_latches_117 (fun H locs G => ?_)
        refine lv_iinc (v := (1 : Int32)) (lv' := [(3, .int (1 : Int32)), (4, .int (0 : Int32)), (2, .int (40 : Int32)), (0, .ref (E.2.2.2 161)), (1, .int (0 : Int32))]) S.1 S.2.1 dX9_latches_118 hl (k := 1) rfl (by decide) (by decide) rfl (fun ls hl => ?_)
        refine lv_iinc (v := (1 : Int32)) (lv' := [(4, .int (1 : Int32)), (3, .int (1 : Int32)), (2, .int (40 : Int32)), (0, .ref (E.2.2.2 161)), (1, .int (0 : Int32))]) S.1 S.2.1 dX9_latches_121 hl (k := 1) rfl (by decide) (by decide) rfl (fun ls hl => ?_)
        refine lv_goto (tgt := 10) S.1 S.2.1 dX9_latches_124 (by decide) ?_
        exact kJ_1 (1 : Int32) _ _ _ _ _ ⟨(show (1 : Int32) = (0 : Int32) + i0M d 40 by subst ey_4; first | exact ite_p (And.intro c_2 c_3) _ | exact ite_p0 (And.intro c_2 c_3) | exact (ltF_p (d := d) (L := 40) (f := 0) (And.intro c_2 c_3)).symm), (st_eq1 (Eq.trans up_eq (show (upd (upd (upd (upd d 52 (d 0)) 53 (d 44)) 54 (d 61)) 61 y_4) = (lt0M d 40) by subst ey_4; (first | exact ite_p (And.intro c_2 c_3) _ | exact ite_p0 (And.intro c_2 c_3) | exact (ltF_p (d := d) (L := 40) (f := 0) (And.intro c_2 c_3)).symm))) (fun _ g0 => (up_ne g0))), rfl⟩ G (lv_sub hl [0, 1, 2, 3, 4] rfl)
  · obtain ⟨h0, hI, hL⟩ := hP
    have h0 : x = ((0 : Int32) + i0M d 40) := h0
    have hl : lv_has ls 5 [(4, .int (1 : Int32)), (3, .int x), (2, .int (40 : Int32)), (0, .ref (E.2.2.2 161)), (1, .int (0 : Int32))] := hl
    subst h0
    have G : GS E (up I 162 (lt0M d 40)) L sg H locs := G.same hI hL
    refine W.eq (g2 := F0 mg 10 ls []) rfl ?_
    refine s_cut (α := Int32) (nL := 5) (E := E) (fun x I' L' => x = (((0 : Int32) + i0M d 40) + i1M (lt0M d 40) 40) ∧ I' = (up I 162 (lt1M (lt0M d 40) 40)) ∧ L' = L) (fun x => [(4, .int (2 : Int32)), (3, .int x), (2, .int (40 : Int32)), (0, .ref (E.2.2.2 161)), (1, .int (0 : Int32))]) 10 (fun x => []) (fun kJ_5 => ?_) (fun x I1 L1 H locs ls hP G hl => ?_)
    · refine lv_iload S.1 S.2.1 dX9_latches_10 (lv_at hl 0 rfl) ?_
      refine lv_iconst (v := (3 : Int32)) S.1 S.2.1 dX9_latches_12 (by decide) ?_
      refine lv_icmp_ge (tgt := 127) S.1 S.2.1 dX9_latches_13 (by decide) (fun h => absurd h (by decide)) (fun _ => ?_)
      refine lv_aload_n S.1 S.2.1 dX9_latches_16 rfl (lv_at hl 3 rfl) ?_
      refine lv_iload_n S.1 S.2.1 dX9_latches_17 rfl (lv_at hl 4 rfl) ?_
      refine lv_iload S.1 S.2.1 dX9_latches_18 (lv_at hl 0 rfl) ?_
      refine s_callV (C := RX9) (As := [.int (0 : Int32), .int (1 : Int32)]) (rest := []) (i := 161) (kd := 9) S hX G (k_X9_isLatched_0_1 l E (lt0M d 40) up_eq) (cwV (bytes := cX9_isLatched) (maxL := 3) (ret := (some .boolean)) 2 S.2.2.2.2 gX9_latches_X9_isLatched rfl rfl rfl (by decide +kernel) ⟨Nat.le_of_ble_eq_true rfl, Nat.le_of_ble_eq_true rfl⟩) (rfl : sh 161 = 9) rfl rfl rfl (by decide) rfl hl.1 rfl (Nat.le_of_ble_eq_true rfl) ⟨Nat.zero_le _, Nat.zero_le _⟩ dX9_latches_20 (fun v I1 L1 H locs hR G => ?_)
      obtain ⟨hv, hI, hL⟩ := hR
      subst hv
      have G : GS E (up I 162 (lt0M d 40)) L sg H locs := G.same hI hL
      refine W.eq (g2 := F0 mg 23 ls [.int (if ¬ (lt0M d 40) 55 = -1 then 1 else 0)]) rfl ?_
      refine s_if_ne_b (P := ¬ (lt0M d 40) 55 = -1) (tgt := 121) S dX9_latches_23 (by decide) (fun c_6 => ?_) (fun c_6 => ?_)
      · refine lv_iinc (v := (2 : Int32)) (lv' := [(4, .int (2 : Int32)), (3, .int ((0 : Int32) + i0M d 40)), (2, .int (40 : Int32)), (0, .ref (E.2.2.2 161)), (1, .int (0 : Int32))]) S.1 S.2.1 dX9_latches_121 hl (k := 0) rfl (by decide) (by decide) rfl (fun ls hl => ?_)
        refine lv_goto (tgt := 10) S.1 S.2.1 dX9_latches_124 (by decide) ?_
        exact kJ_5 ((0 : Int32) + i0M d 40) _ _ _ _ _ ⟨(show ((0 : Int32) + i0M d 40) = ((0 : Int32) + i0M d 40) + i1M (lt0M d 40) 40 by first | exact ite_n (fun q => q.1 c_6) _ | exact ite_z0 (fun q => q.1 c_6) | exact (ltF_n (fun q => q.1 c_6)).symm), (st_eq1 (Eq.trans up_eq (show (lt0M d 40) = (lt1M (lt0M d 40) 40) by first | exact ite_n (fun q => q.1 c_6) _ | exact ite_z0 (fun q => q.1 c_6) | exact (ltF_n (fun q => q.1 c_6)).symm)) (fun _ g0 => (up_ne g0))), rfl⟩ G (lv_sub hl [0, 1, 2, 3, 4] rfl)
      · refine lv_aload_n S.1 S.2.1 dX9_latches_26 rfl (lv_at hl 3 rfl) ?_
        refine lv_iload_n S.1 S.2.1 dX9_latches_27 rfl (lv_at hl 4 rfl) ?_
        refine lv_iload S.1 S.2.1 dX9_latches_28 (lv_at hl 0 rfl) ?_
        refine s_callV (C := RX9) (As := [.int (0 : Int32), .int (1 : Int32)]) (rest := []) (i := 161) (kd := 9) S hX G (k_X9_isSeen_0_1 l E (lt0M d 40) up_eq) (cwV (bytes := cX9_isSeen) (maxL := 4) (ret := (some .boolean)) 2 S.2.2.2.2 gX9_latches_X9_isSeen rfl rfl rfl (by decide +kernel) ⟨Nat.le_of_ble_eq_true rfl, Nat.le_of_ble_eq_true rfl⟩) (rfl : sh 161 = 9) rfl rfl rfl (by decide) rfl hl.1 rfl (Nat.le_of_ble_eq_true rfl) ⟨Nat.zero_le _, Nat.zero_le _⟩ dX9_latches_30 (fun v I1 L1 H locs hR G => ?_)
        obtain ⟨hv, hI, hL⟩ := hR
        subst hv
        have G : GS E (up I 162 (lt0M d 40)) L sg H locs := G.same hI hL
        refine W.eq (g2 := F0 mg 33 ls [.int (if ¬ (lt0M d 40) 50 < (lt0M d 40) 4 ∧ ¬ (lt0M d 40) 40 ≤ absM ((lt0M d 40) 44) then 1 else 0)]) rfl ?_
        refine s_if_eq_b (P := ¬ (lt0M d 40) 50 < (lt0M d 40) 4 ∧ ¬ (lt0M d 40) 40 ≤ absM ((lt0M d 40) 44)) (tgt := 121) S dX9_latches_33 (by decide) (fun c_7 => ?_) (fun c_7 => ?_)
        · refine lv_iinc (v := (2 : Int32)) (lv' := [(4, .int (2 : Int32)), (3, .int ((0 : Int32) + i0M d 40)), (2, .int (40 : Int32)), (0, .ref (E.2.2.2 161)), (1, .int (0 : Int32))]) S.1 S.2.1 dX9_latches_121 hl (k := 0) rfl (by decide) (by decide) rfl (fun ls hl => ?_)
          refine lv_goto (tgt := 10) S.1 S.2.1 dX9_latches_124 (by decide) ?_
          exact kJ_5 ((0 : Int32) + i0M d 40) _ _ _ _ _ ⟨(show ((0 : Int32) + i0M d 40) = ((0 : Int32) + i0M d 40) + i1M (lt0M d 40) 40 by first | exact ite_n (fun q => c_7 q.2) _ | exact ite_z0 (fun q => c_7 q.2) | exact (ltF_n (fun q => c_7 q.2)).symm), (st_eq1 (Eq.trans up_eq (show (lt0M d 40) = (lt1M (lt0M d 40) 40) by first | exact ite_n (fun q => c_7 q.2) _ | exact ite_z0 (fun q => c_7 q.2) | exact (ltF_n (fun q => c_7 q.2)).symm)) (fun _ g0 => (up_ne g0))), rfl⟩ G (lv_sub hl [0, 1, 2, 3, 4] rfl)
        · refine lv_aload_n S.1 S.2.1 dX9_latches_36 rfl (lv_at hl 3 rfl) ?_
          refine s_get S hX G (i := 161) (kd := 9) (a := (I 161)) (v := .ref (E.2.2.2 162)) (C := RX9) (T := TX9) (N := 13) 0 (rfl : sh 161 = 9) (up_ne (by decide)) rfl rfl (by decide) rfl (fun _ h => (List.mem_cons_of_mem _ (List.mem_append_right _ h))) (by decide) (List.mem_of_getElem? (i := 1) rfl) (fun _ h => h) dX9_latches_37 ?_
          refine lv_iload_n S.1 S.2.1 dX9_latches_40 rfl (lv_at hl 2 rfl) ?_
          refine lv_bipush (v := (12 : Int32)) S.1 S.2.1 dX9_latches_41 (by decide) ?_
          refine s_iadd (v := (52 : Int32)) S dX9_latches_43 (by decide) ?_
          refine lv_iconst (v := (3 : Int32)) S.1 S.2.1 dX9_latches_44 (by decide) ?_
          refine lv_iload S.1 S.2.1 dX9_latches_45 (lv_at hl 0 rfl) ?_
          refine s_imul (v := (3 : Int32)) S dX9_latches_47 (by decide) ?_
          refine s_iadd (v := (55 : Int32)) S dX9_latches_48 (by decide) ?_
          refine lv_aload_n S.1 S.2.1 dX9_latches_49 rfl (lv_at hl 3 rfl) ?_
          refine s_get S hX G (i := 161) (kd := 9) (a := (I 161)) (v := .ref (E.2.2.2 162)) (C := RX9) (T := TX9) (N := 13) 0 (rfl : sh 161 = 9) (up_ne (by decide)) rfl rfl (by decide) rfl (fun _ h => (List.mem_cons_of_mem _ (List.mem_append_right _ h))) (by decide) (List.mem_of_getElem? (i := 1) rfl) (fun _ h => h) dX9_latches_50 ?_
          refine lv_iconst (v := (0 : Int32)) S.1 S.2.1 dX9_latches_53 (by decide) ?_
          refine s_iald S hX G (i := 162) (kd := 284) (n := 270) (a := (lt0M d 40)) (x := ((lt0M d 40) 0)) (rfl : sh 162 = 284) up_eq rfl (by decide) (by unfold vp_in; decide) (congrArg (lt0M d 40) (by decide)) dX9_latches_54 ?_
          refine lv_topi (fun y_8 ey_8 => ?_)
          refine s_iast S hX G (i := 162) (kd := 284) (n := 270) (jn := 55) (a := (lt0M d 40)) (I' := (up I 162 (upd (lt0M d 40) 55 y_8))) (rfl : sh 162 = 284) up_eq (fun _ => rfl) (by decide) (by unfold vp_in; decide) (by decide) (by rw [up_up]) dX9_latches_55 (fun H locs G => ?_)
          refine lv_aload_n S.1 S.2.1 dX9_latches_56 rfl (lv_at hl 3 rfl) ?_
          refine s_get S hX G (i := 161) (kd := 9) (a := (I 161)) (v := .ref (E.2.2.2 162)) (C := RX9) (T := TX9) (N := 13) 0 (rfl : sh 161 = 9) (up_ne (by decide)) rfl rfl (by decide) rfl (fun _ h => (List.mem_cons_of_mem _ (List.mem_append_right _ h))) (by decide) (List.mem_of_getElem? (i := 1) rfl) (fun _ h => h) dX9_latches_57 ?_
          refine lv_iload_n S.1 S.2.1 dX9_latches_60 rfl (lv_at hl 2 rfl) ?_
          refine lv_bipush (v := (12 : Int32)) S.1 S.2.1 dX9_latches_61 (by decide) ?_
          refine s_iadd (v := (52 : Int32)) S dX9_latches_63 (by decide) ?_
          refine lv_iconst (v := (3 : Int32)) S.1 S.2.1 dX9_latches_64 (by decide) ?_
          refine lv_iload S.1 S.2.1 dX9_latches_65 (lv_at hl 0 rfl) ?_
          refine s_imul (v := (3 : Int32)) S dX9_latches_67 (by decide) ?_
          refine s_iadd (v := (55 : Int32)) S dX9_latches_68 (by decide) ?_
          refine lv_iconst (v := (1 : Int32)) S.1 S.2.1 dX9_latches_69 (by decide) ?_
          refine s_iadd (v := (56 : Int32)) S dX9_latches_70 (by decide) ?_
          refine lv_aload_n S.1 S.2.1 dX9_latches_71 rfl (lv_at hl 3 rfl) ?_
          refine s_get S hX G (i := 161) (kd := 9) (a := (I 161)) (v := .ref (E.2.2.2 162)) (C := RX9) (T := TX9) (N := 13) 0 (rfl : sh 161 = 9) (up_ne (by decide)) rfl rfl (by decide) rfl (fun _ h => (List.mem_cons_of_mem _ (List.mem_append_right _ h))) (by decide) (List.mem_of_getElem? (i := 1) rfl) (fun _ h => h) dX9_latches_72 ?_
          refine lv_iload_n S.1 S.2.1 dX9_latches_75 rfl (lv_at hl 2 rfl) ?_
          refine lv_iconst (v := (4 : Int32)) S.1 S.2.1 dX9_latches_76 (by decide) ?_
          refine s_iadd (v := (44 : Int32)) S dX9_latches_77 (by decide) ?_
          refine s_iald S hX G (i := 162) (kd := 284) (n := 270) (a := (upd (lt0M d 40) 55 y_8)) (x := ((lt0M d 40) 44)) (rfl : sh 162 = 284) up_eq rfl (by decide) (by unfold vp_in; decide) (show (upd (lt0M d 40) 55 y_8) (Int32.toNatClampNeg (44 : Int32)) = ((lt0M d 40) 44) from congrArg (upd (lt0M d 40) 55 y_8) (show Int32.toNatClampNeg (44 : Int32) = 44 from (by decide))) dX9_latches_78 ?_
          refine lv_topi (fun y_9 ey_9 => ?_)
          refine s_iast S hX G (i := 162) (kd := 284) (n := 270) (jn := 56) (a := (upd (lt0M d 40) 55 y_8)) (I' := (up I 162 (upd (upd (lt0M d 40) 55 y_8) 56 y_9))) (rfl : sh 162 = 284) up_eq (fun _ => rfl) (by decide) (by unfold vp_in; decide) (by decide) (by rw [up_up]) dX9_latches_79 (fun H locs G => ?_)
          refine lv_aload_n S.1 S.2.1 dX9_latches_80 rfl (lv_at hl 3 rfl) ?_
          refine s_get S hX G (i := 161) (kd := 9) (a := (I 161)) (v := .ref (E.2.2.2 162)) (C := RX9) (T := TX9) (N := 13) 0 (rfl : sh 161 = 9) (up_ne (by decide)) rfl rfl (by decide) rfl (fun _ h => (List.mem_cons_of_mem _ (List.mem_append_right _ h))) (by decide) (List.mem_of_getElem? (i := 1) rfl) (fun _ h => h) dX9_latches_81 ?_
          refine lv_iload_n S.1 S.2.1 dX9_latches_84 rfl (lv_at hl 2 rfl) ?_
          refine lv_bipush (v := (12 : Int32)) S.1 S.2.1 dX9_latches_85 (by decide) ?_
          refine s_iadd (v := (52 : Int32)) S dX9_latches_87 (by decide) ?_
          refine lv_iconst (v := (3 : Int32)) S.1 S.2.1 dX9_latches_88 (by decide) ?_
          refine lv_iload S.1 S.2.1 dX9_latches_89 (lv_at hl 0 rfl) ?_
          refine s_imul (v := (3 : Int32)) S dX9_latches_91 (by decide) ?_
          refine s_iadd (v := (55 : Int32)) S dX9_latches_92 (by decide) ?_
          refine lv_iconst (v := (2 : Int32)) S.1 S.2.1 dX9_latches_93 (by decide) ?_
          refine s_iadd (v := (57 : Int32)) S dX9_latches_94 (by decide) ?_
          refine lv_aload_n S.1 S.2.1 dX9_latches_95 rfl (lv_at hl 3 rfl) ?_
          refine s_get S hX G (i := 161) (kd := 9) (a := (I 161)) (v := .ref (E.2.2.2 162)) (C := RX9) (T := TX9) (N := 13) 0 (rfl : sh 161 = 9) (up_ne (by decide)) rfl rfl (by decide) rfl (fun _ h => (List.mem_cons_of_mem _ (List.mem_append_right _ h))) (by decide) (List.mem_of_getElem? (i := 1) rfl) (fun _ h => h) dX9_latches_96 ?_
          refine lv_iload_n S.1 S.2.1 dX9_latches_99 rfl (lv_at hl 2 rfl) ?_
          refine lv_bipush (v := (21 : Int32)) S.1 S.2.1 dX9_latches_100 (by decide) ?_
          refine s_iadd (v := (61 : Int32)) S dX9_latches_102 (by decide) ?_
          refine s_iald S hX G (i := 162) (kd := 284) (n := 270) (a := (upd (upd (lt0M d 40) 55 y_8) 56 y_9)) (x := ((lt0M d 40) 61)) (rfl : sh 162 = 284) up_eq rfl (by decide) (by unfold vp_in; decide) (show (upd (upd (lt0M d 40) 55 y_8) 56 y_9) (Int32.toNatClampNeg (61 : Int32)) = ((lt0M d 40) 61) from congrArg (upd (upd (lt0M d 40) 55 y_8) 56 y_9) (show Int32.toNatClampNeg (61 : Int32) = 61 from (by decide))) dX9_latches_103 ?_
          refine lv_topi (fun y_10 ey_10 => ?_)
          refine s_iast S hX G (i := 162) (kd := 284) (n := 270) (jn := 57) (a := (upd (upd (lt0M d 40) 55 y_8) 56 y_9)) (I' := (up I 162 (upd (upd (upd (lt0M d 40) 55 y_8) 56 y_9) 57 y_10))) (rfl : sh 162 = 284) up_eq (fun _ => rfl) (by decide) (by unfold vp_in; decide) (by decide) (by rw [up_up]) dX9_latches_104 (fun H locs G => ?_)
          refine lv_aload_n S.1 S.2.1 dX9_latches_105 rfl (lv_at hl 3 rfl) ?_
          refine s_get S hX G (i := 161) (kd := 9) (a := (I 161)) (v := .ref (E.2.2.2 162)) (C := RX9) (T := TX9) (N := 13) 0 (rfl : sh 161 = 9) (up_ne (by decide)) rfl rfl (by decide) rfl (fun _ h => (List.mem_cons_of_mem _ (List.mem_append_right _ h))) (by decide) (List.mem_of_getElem? (i := 1) rfl) (fun _ h => h) dX9_latches_106 ?_
          refine lv_iload_n S.1 S.2.1 dX9_latches_109 rfl (lv_at hl 2 rfl) ?_
          refine lv_bipush (v := (21 : Int32)) S.1 S.2.1 dX9_latches_110 (by decide) ?_
          refine s_iadd (v := (61 : Int32)) S dX9_latches_112 (by decide) ?_
          refine lv_dup2_11 S.1 S.2.1 dX9_latches_113 rfl rfl ?_
          refine s_iald S hX G (i := 162) (kd := 284) (n := 270) (a := (upd (upd (upd (lt0M d 40) 55 y_8) 56 y_9) 57 y_10)) (x := ((lt0M d 40) 61)) (rfl : sh 162 = 284) up_eq rfl (by decide) (by unfold vp_in; decide) (show (upd (upd (upd (lt0M d 40) 55 y_8) 56 y_9) 57 y_10) (Int32.toNatClampNeg (61 : Int32)) = ((lt0M d 40) 61) from congrArg (upd (upd (upd (lt0M d 40) 55 y_8) 56 y_9) 57 y_10) (show Int32.toNatClampNeg (61 : Int32) = 61 from (by decide))) dX9_latches_114 ?_
          refine lv_iconst (v := (1 : Int32)) S.1 S.2.1 dX9_latches_115 (by decide) ?_
          refine s_iadd (v := (((lt0M d 40) 61) + (1 : Int32))) S dX9_latches_116 rfl ?_
          refine lv_topi (fun y_11 ey_11 => ?_)
          refine s_iast S hX G (i := 162) (kd := 284) (n := 270) (jn := 61) (a := (upd (upd (upd (lt0M d 40) 55 y_8) 56 y_9) 57 y_10)) (I' := (up I 162 (upd (upd (upd (upd (lt0M d 40) 55 y_8) 56 y_9) 57 y_10) 61 y_11))) (rfl : sh 162 = 284) up_eq (fun _ => rfl) (by decide) (by unfold vp_in; decide) (by decide) (by rw [up_up]) dX9_latches_117 (fun H locs G => ?_)
          refine lv_iinc (v := (((0 : Int32) + i0M d 40) + 1)) (lv' := [(3, .int (((0 : Int32) + i0M d 40) + 1)), (4, .int (1 : Int32)), (2, .int (40 : Int32)), (0, .ref (E.2.2.2 161)), (1, .int (0 : Int32))]) S.1 S.2.1 dX9_latches_118 hl (k := 1) rfl rfl (by decide) rfl (fun ls hl => ?_)
          refine lv_iinc (v := (2 : Int32)) (lv' := [(4, .int (2 : Int32)), (3, .int (((0 : Int32) + i0M d 40) + 1)), (2, .int (40 : Int32)), (0, .ref (E.2.2.2 161)), (1, .int (0 : Int32))]) S.1 S.2.1 dX9_latches_121 hl (k := 1) rfl (by decide) (by decide) rfl (fun ls hl => ?_)
          refine lv_goto (tgt := 10) S.1 S.2.1 dX9_latches_124 (by decide) ?_
          exact kJ_5 (((0 : Int32) + i0M d 40) + 1) _ _ _ _ _ ⟨(show (((0 : Int32) + i0M d 40) + 1) = ((0 : Int32) + i0M d 40) + i1M (lt0M d 40) 40 by subst ey_11 ey_10 ey_9 ey_8; first | exact ite_p (And.intro c_6 c_7) _ | exact ite_p0 (And.intro c_6 c_7) | exact (ltF_p (d := (lt0M d 40)) (L := 40) (f := 1) (And.intro c_6 c_7)).symm), (st_eq1 (Eq.trans up_eq (show (upd (upd (upd (upd (lt0M d 40) 55 y_8) 56 y_9) 57 y_10) 61 y_11) = (lt1M (lt0M d 40) 40) by subst ey_11 ey_10 ey_9 ey_8; (first | exact ite_p (And.intro c_6 c_7) _ | exact ite_p0 (And.intro c_6 c_7) | exact (ltF_p (d := (lt0M d 40)) (L := 40) (f := 1) (And.intro c_6 c_7)).symm))) (fun _ g0 => (up_ne g0))), rfl⟩ G (lv_sub hl [0, 1, 2, 3, 4] rfl)
    · obtain ⟨h0, hI, hL⟩ := hP
      have h0 : x = (((0 : Int32) + i0M d 40) + i1M (lt0M d 40) 40) := h0
      have hl : lv_has ls 5 [(4, .int (2 : Int32)), (3, .int x), (2, .int (40 : Int32)), (0, .ref (E.2.2.2 161)), (1, .int (0 : Int32))] := hl
      subst h0
      have G : GS E (up I 162 (lt1M (lt0M d 40) 40)) L sg H locs := G.same hI hL
      refine W.eq (g2 := F0 mg 10 ls []) rfl ?_
      refine s_cut (α := Int32) (nL := 5) (E := E) (fun x I' L' => x = ((((0 : Int32) + i0M d 40) + i1M (lt0M d 40) 40) + i2M (lt1M (lt0M d 40) 40) 40) ∧ I' = (up I 162 (lt2M (lt1M (lt0M d 40) 40) 40)) ∧ L' = L) (fun x => [(4, .int (3 : Int32)), (3, .int x), (2, .int (40 : Int32)), (0, .ref (E.2.2.2 161)), (1, .int (0 : Int32))]) 10 (fun x => []) (fun kJ_12 => ?_) (fun x I1 L1 H locs ls hP G hl => ?_)
      · refine lv_iload S.1 S.2.1 dX9_latches_10 (lv_at hl 0 rfl) ?_
        refine lv_iconst (v := (3 : Int32)) S.1 S.2.1 dX9_latches_12 (by decide) ?_
        refine lv_icmp_ge (tgt := 127) S.1 S.2.1 dX9_latches_13 (by decide) (fun h => absurd h (by decide)) (fun _ => ?_)
        refine lv_aload_n S.1 S.2.1 dX9_latches_16 rfl (lv_at hl 3 rfl) ?_
        refine lv_iload_n S.1 S.2.1 dX9_latches_17 rfl (lv_at hl 4 rfl) ?_
        refine lv_iload S.1 S.2.1 dX9_latches_18 (lv_at hl 0 rfl) ?_
        refine s_callV (C := RX9) (As := [.int (0 : Int32), .int (2 : Int32)]) (rest := []) (i := 161) (kd := 9) S hX G (k_X9_isLatched_0_2 l E (lt1M (lt0M d 40) 40) up_eq) (cwV (bytes := cX9_isLatched) (maxL := 3) (ret := (some .boolean)) 2 S.2.2.2.2 gX9_latches_X9_isLatched rfl rfl rfl (by decide +kernel) ⟨Nat.le_of_ble_eq_true rfl, Nat.le_of_ble_eq_true rfl⟩) (rfl : sh 161 = 9) rfl rfl rfl (by decide) rfl hl.1 rfl (Nat.le_of_ble_eq_true rfl) ⟨Nat.zero_le _, Nat.zero_le _⟩ dX9_latches_20 (fun v I1 L1 H locs hR G => ?_)
        obtain ⟨hv, hI, hL⟩ := hR
        subst hv
        have G : GS E (up I 162 (lt1M (lt0M d 40) 40)) L sg H locs := G.same hI hL
        refine W.eq (g2 := F0 mg 23 ls [.int (if ¬ (lt1M (lt0M d 40) 40) 58 = -1 then 1 else 0)]) rfl ?_
        refine s_if_ne_b (P := ¬ (lt1M (lt0M d 40) 40) 58 = -1) (tgt := 121) S dX9_latches_23 (by decide) (fun c_13 => ?_) (fun c_13 => ?_)
        · refine lv_iinc (v := (3 : Int32)) (lv' := [(4, .int (3 : Int32)), (3, .int (((0 : Int32) + i0M d 40) + i1M (lt0M d 40) 40)), (2, .int (40 : Int32)), (0, .ref (E.2.2.2 161)), (1, .int (0 : Int32))]) S.1 S.2.1 dX9_latches_121 hl (k := 0) rfl (by decide) (by decide) rfl (fun ls hl => ?_)
          refine lv_goto (tgt := 10) S.1 S.2.1 dX9_latches_124 (by decide) ?_
          exact kJ_12 (((0 : Int32) + i0M d 40) + i1M (lt0M d 40) 40) _ _ _ _ _ ⟨(show (((0 : Int32) + i0M d 40) + i1M (lt0M d 40) 40) = (((0 : Int32) + i0M d 40) + i1M (lt0M d 40) 40) + i2M (lt1M (lt0M d 40) 40) 40 by first | exact ite_n (fun q => q.1 c_13) _ | exact ite_z0 (fun q => q.1 c_13) | exact (ltF_n (fun q => q.1 c_13)).symm), (st_eq1 (Eq.trans up_eq (show (lt1M (lt0M d 40) 40) = (lt2M (lt1M (lt0M d 40) 40) 40) by first | exact ite_n (fun q => q.1 c_13) _ | exact ite_z0 (fun q => q.1 c_13) | exact (ltF_n (fun q => q.1 c_13)).symm)) (fun _ g0 => (up_ne g0))), rfl⟩ G (lv_sub hl [0, 1, 2, 3, 4] rfl)
        · refine lv_aload_n S.1 S.2.1 dX9_latches_26 rfl (lv_at hl 3 rfl) ?_
          refine lv_iload_n S.1 S.2.1 dX9_latches_27 rfl (lv_at hl 4 rfl) ?_
          refine lv_iload S.1 S.2.1 dX9_latches_28 (lv_at hl 0 rfl) ?_
          refine s_callV (C := RX9) (As := [.int (0 : Int32), .int (2 : Int32)]) (rest := []) (i := 161) (kd := 9) S hX G (k_X9_isSeen_0_2 l E (lt1M (lt0M d 40) 40) up_eq) (cwV (bytes := cX9_isSeen) (maxL := 4) (ret := (some .boolean)) 2 S.2.2.2.2 gX9_latches_X9_isSeen rfl rfl rfl (by decide +kernel) ⟨Nat.le_of_ble_eq_true rfl, Nat.le_of_ble_eq_true rfl⟩) (rfl : sh 161 = 9) rfl rfl rfl (by decide) rfl hl.1 rfl (Nat.le_of_ble_eq_true rfl) ⟨Nat.zero_le _, Nat.zero_le _⟩ dX9_latches_30 (fun v I1 L1 H locs hR G => ?_)
          obtain ⟨hv, hI, hL⟩ := hR
          subst hv
          have G : GS E (up I 162 (lt1M (lt0M d 40) 40)) L sg H locs := G.same hI hL
          refine W.eq (g2 := F0 mg 33 ls [.int (if ¬ (lt1M (lt0M d 40) 40) 45 < (lt1M (lt0M d 40) 40) 5 then 1 else 0)]) rfl ?_
          refine s_if_eq_b (P := ¬ (lt1M (lt0M d 40) 40) 45 < (lt1M (lt0M d 40) 40) 5) (tgt := 121) S dX9_latches_33 (by decide) (fun c_14 => ?_) (fun c_14 => ?_)
          · refine lv_iinc (v := (3 : Int32)) (lv' := [(4, .int (3 : Int32)), (3, .int (((0 : Int32) + i0M d 40) + i1M (lt0M d 40) 40)), (2, .int (40 : Int32)), (0, .ref (E.2.2.2 161)), (1, .int (0 : Int32))]) S.1 S.2.1 dX9_latches_121 hl (k := 0) rfl (by decide) (by decide) rfl (fun ls hl => ?_)
            refine lv_goto (tgt := 10) S.1 S.2.1 dX9_latches_124 (by decide) ?_
            exact kJ_12 (((0 : Int32) + i0M d 40) + i1M (lt0M d 40) 40) _ _ _ _ _ ⟨(show (((0 : Int32) + i0M d 40) + i1M (lt0M d 40) 40) = (((0 : Int32) + i0M d 40) + i1M (lt0M d 40) 40) + i2M (lt1M (lt0M d 40) 40) 40 by first | exact ite_n (fun q => c_14 q.2) _ | exact ite_z0 (fun q => c_14 q.2) | exact (ltF_n (fun q => c_14 q.2)).symm), (st_eq1 (Eq.trans up_eq (show (lt1M (lt0M d 40) 40) = (lt2M (lt1M (lt0M d 40) 40) 40) by first | exact ite_n (fun q => c_14 q.2) _ | exact ite_z0 (fun q => c_14 q.2) | exact (ltF_n (fun q => c_14 q.2)).symm)) (fun _ g0 => (up_ne g0))), rfl⟩ G (lv_sub hl [0, 1, 2, 3, 4] rfl)
          · refine lv_aload_n S.1 S.2.1 dX9_latches_36 rfl (lv_at hl 3 rfl) ?_
            refine s_get S hX G (i := 161) (kd := 9) (a := (I 161)) (v := .ref (E.2.2.2 162)) (C := RX9) (T := TX9) (N := 13) 0 (rfl : sh 161 = 9) (up_ne (by decide)) rfl rfl (by decide) rfl (fun _ h => (List.mem_cons_of_mem _ (List.mem_append_right _ h))) (by decide) (List.mem_of_getElem? (i := 1) rfl) (fun _ h => h) dX9_latches_37 ?_
            refine lv_iload_n S.1 S.2.1 dX9_latches_40 rfl (lv_at hl 2 rfl) ?_
            refine lv_bipush (v := (12 : Int32)) S.1 S.2.1 dX9_latches_41 (by decide) ?_
            refine s_iadd (v := (52 : Int32)) S dX9_latches_43 (by decide) ?_
            refine lv_iconst (v := (3 : Int32)) S.1 S.2.1 dX9_latches_44 (by decide) ?_
            refine lv_iload S.1 S.2.1 dX9_latches_45 (lv_at hl 0 rfl) ?_
            refine s_imul (v := (6 : Int32)) S dX9_latches_47 (by decide) ?_
            refine s_iadd (v := (58 : Int32)) S dX9_latches_48 (by decide) ?_
            refine lv_aload_n S.1 S.2.1 dX9_latches_49 rfl (lv_at hl 3 rfl) ?_
            refine s_get S hX G (i := 161) (kd := 9) (a := (I 161)) (v := .ref (E.2.2.2 162)) (C := RX9) (T := TX9) (N := 13) 0 (rfl : sh 161 = 9) (up_ne (by decide)) rfl rfl (by decide) rfl (fun _ h => (List.mem_cons_of_mem _ (List.mem_append_right _ h))) (by decide) (List.mem_of_getElem? (i := 1) rfl) (fun _ h => h) dX9_latches_50 ?_
            refine lv_iconst (v := (0 : Int32)) S.1 S.2.1 dX9_latches_53 (by decide) ?_
            refine s_iald S hX G (i := 162) (kd := 284) (n := 270) (a := (lt1M (lt0M d 40) 40)) (x := ((lt1M (lt0M d 40) 40) 0)) (rfl : sh 162 = 284) up_eq rfl (by decide) (by unfold vp_in; decide) (congrArg (lt1M (lt0M d 40) 40) (by decide)) dX9_latches_54 ?_
            refine lv_topi (fun y_15 ey_15 => ?_)
            refine s_iast S hX G (i := 162) (kd := 284) (n := 270) (jn := 58) (a := (lt1M (lt0M d 40) 40)) (I' := (up I 162 (upd (lt1M (lt0M d 40) 40) 58 y_15))) (rfl : sh 162 = 284) up_eq (fun _ => rfl) (by decide) (by unfold vp_in; decide) (by decide) (by rw [up_up]) dX9_latches_55 (fun H locs G => ?_)
            refine lv_aload_n S.1 S.2.1 dX9_latches_56 rfl (lv_at hl 3 rfl) ?_
            refine s_get S hX G (i := 161) (kd := 9) (a := (I 161)) (v := .ref (E.2.2.2 162)) (C := RX9) (T := TX9) (N := 13) 0 (rfl : sh 161 = 9) (up_ne (by decide)) rfl rfl (by decide) rfl (fun _ h => (List.mem_cons_of_mem _ (List.mem_append_right _ h))) (by decide) (List.mem_of_getElem? (i := 1) rfl) (fun _ h => h) dX9_latches_57 ?_
            refine lv_iload_n S.1 S.2.1 dX9_latches_60 rfl (lv_at hl 2 rfl) ?_
            refine lv_bipush (v := (12 : Int32)) S.1 S.2.1 dX9_latches_61 (by decide) ?_
            refine s_iadd (v := (52 : Int32)) S dX9_latches_63 (by decide) ?_
            refine lv_iconst (v := (3 : Int32)) S.1 S.2.1 dX9_latches_64 (by decide) ?_
            refine lv_iload S.1 S.2.1 dX9_latches_65 (lv_at hl 0 rfl) ?_
            refine s_imul (v := (6 : Int32)) S dX9_latches_67 (by decide) ?_
            refine s_iadd (v := (58 : Int32)) S dX9_latches_68 (by decide) ?_
            refine lv_iconst (v := (1 : Int32)) S.1 S.2.1 dX9_latches_69 (by decide) ?_
            refine s_iadd (v := (59 : Int32)) S dX9_latches_70 (by decide) ?_
            refine lv_aload_n S.1 S.2.1 dX9_latches_71 rfl (lv_at hl 3 rfl) ?_
            refine s_get S hX G (i := 161) (kd := 9) (a := (I 161)) (v := .ref (E.2.2.2 162)) (C := RX9) (T := TX9) (N := 13) 0 (rfl : sh 161 = 9) (up_ne (by decide)) rfl rfl (by decide) rfl (fun _ h => (List.mem_cons_of_mem _ (List.mem_append_right _ h))) (by decide) (List.mem_of_getElem? (i := 1) rfl) (fun _ h => h) dX9_latches_72 ?_
            refine lv_iload_n S.1 S.2.1 dX9_latches_75 rfl (lv_at hl 2 rfl) ?_
            refine lv_iconst (v := (4 : Int32)) S.1 S.2.1 dX9_latches_76 (by decide) ?_
            refine s_iadd (v := (44 : Int32)) S dX9_latches_77 (by decide) ?_
            refine s_iald S hX G (i := 162) (kd := 284) (n := 270) (a := (upd (lt1M (lt0M d 40) 40) 58 y_15)) (x := ((lt1M (lt0M d 40) 40) 44)) (rfl : sh 162 = 284) up_eq rfl (by decide) (by unfold vp_in; decide) (show (upd (lt1M (lt0M d 40) 40) 58 y_15) (Int32.toNatClampNeg (44 : Int32)) = ((lt1M (lt0M d 40) 40) 44) from congrArg (upd (lt1M (lt0M d 40) 40) 58 y_15) (show Int32.toNatClampNeg (44 : Int32) = 44 from (by decide))) dX9_latches_78 ?_
            refine lv_topi (fun y_16 ey_16 => ?_)
            refine s_iast S hX G (i := 162) (kd := 284) (n := 270) (jn := 59) (a := (upd (lt1M (lt0M d 40) 40) 58 y_15)) (I' := (up I 162 (upd (upd (lt1M (lt0M d 40) 40) 58 y_15) 59 y_16))) (rfl : sh 162 = 284) up_eq (fun _ => rfl) (by decide) (by unfold vp_in; decide) (by decide) (by rw [up_up]) dX9_latches_79 (fun H locs G => ?_)
            refine lv_aload_n S.1 S.2.1 dX9_latches_80 rfl (lv_at hl 3 rfl) ?_
            refine s_get S hX G (i := 161) (kd := 9) (a := (I 161)) (v := .ref (E.2.2.2 162)) (C := RX9) (T := TX9) (N := 13) 0 (rfl : sh 161 = 9) (up_ne (by decide)) rfl rfl (by decide) rfl (fun _ h => (List.mem_cons_of_mem _ (List.mem_append_right _ h))) (by decide) (List.mem_of_getElem? (i := 1) rfl) (fun _ h => h) dX9_latches_81 ?_
            refine lv_iload_n S.1 S.2.1 dX9_latches_84 rfl (lv_at hl 2 rfl) ?_
            refine lv_bipush (v := (12 : Int32)) S.1 S.2.1 dX9_latches_85 (by decide) ?_
            refine s_iadd (v := (52 : Int32)) S dX9_latches_87 (by decide) ?_
            refine lv_iconst (v := (3 : Int32)) S.1 S.2.1 dX9_latches_88 (by decide) ?_
            refine lv_iload S.1 S.2.1 dX9_latches_89 (lv_at hl 0 rfl) ?_
            refine s_imul (v := (6 : Int32)) S dX9_latches_91 (by decide) ?_
            refine s_iadd (v := (58 : Int32)) S dX9_latches_92 (by decide) ?_
            refine lv_iconst (v := (2 : Int32)) S.1 S.2.1 dX9_latches_93 (by decide) ?_
            refine s_iadd (v := (60 : Int32)) S dX9_latches_94 (by decide) ?_
            refine lv_aload_n S.1 S.2.1 dX9_latches_95 rfl (lv_at hl 3 rfl) ?_
            refine s_get S hX G (i := 161) (kd := 9) (a := (I 161)) (v := .ref (E.2.2.2 162)) (C := RX9) (T := TX9) (N := 13) 0 (rfl : sh 161 = 9) (up_ne (by decide)) rfl rfl (by decide) rfl (fun _ h => (List.mem_cons_of_mem _ (List.mem_append_right _ h))) (by decide) (List.mem_of_getElem? (i := 1) rfl) (fun _ h => h) dX9_latches_96 ?_
            refine lv_iload_n S.1 S.2.1 dX9_latches_99 rfl (lv_at hl 2 rfl) ?_
            refine lv_bipush (v := (21 : Int32)) S.1 S.2.1 dX9_latches_100 (by decide) ?_
            refine s_iadd (v := (61 : Int32)) S dX9_latches_102 (by decide) ?_
            refine s_iald S hX G (i := 162) (kd := 284) (n := 270) (a := (upd (upd (lt1M (lt0M d 40) 40) 58 y_15) 59 y_16)) (x := ((lt1M (lt0M d 40) 40) 61)) (rfl : sh 162 = 284) up_eq rfl (by decide) (by unfold vp_in; decide) (show (upd (upd (lt1M (lt0M d 40) 40) 58 y_15) 59 y_16) (Int32.toNatClampNeg (61 : Int32)) = ((lt1M (lt0M d 40) 40) 61) from congrArg (upd (upd (lt1M (lt0M d 40) 40) 58 y_15) 59 y_16) (show Int32.toNatClampNeg (61 : Int32) = 61 from (by decide))) dX9_latches_103 ?_
            refine lv_topi (fun y_17 ey_17 => ?_)
            refine s_iast S hX G (i := 162) (kd := 284) (n := 270) (jn := 60) (a := (upd (upd (lt1M (lt0M d 40) 40) 58 y_15) 59 y_16)) (I' := (up I 162 (upd (upd (upd (lt1M (lt0M d 40) 40) 58 y_15) 59 y_16) 60 y_17))) (rfl : sh 162 = 284) up_eq (fun _ => rfl) (by decide) (by unfold vp_in; decide) (by decide) (by rw [up_up]) dX9_latches_104 (fun H locs G => ?_)
            refine lv_aload_n S.1 S.2.1 dX9_latches_105 rfl (lv_at hl 3 rfl) ?_
            refine s_get S hX G (i := 161) (kd := 9) (a := (I 161)) (v := .ref (E.2.2.2 162)) (C := RX9) (T := TX9) (N := 13) 0 (rfl : sh 161 = 9) (up_ne (by decide)) rfl rfl (by decide) rfl (fun _ h => (List.mem_cons_of_mem _ (List.mem_append_right _ h))) (by decide) (List.mem_of_getElem? (i := 1) rfl) (fun _ h => h) dX9_latches_106 ?_
            refine lv_iload_n S.1 S.2.1 dX9_latches_109 rfl (lv_at hl 2 rfl) ?_
            refine lv_bipush (v := (21 : Int32)) S.1 S.2.1 dX9_latches_110 (by decide) ?_
            refine s_iadd (v := (61 : Int32)) S dX9_latches_112 (by decide) ?_
            refine lv_dup2_11 S.1 S.2.1 dX9_latches_113 rfl rfl ?_
            refine s_iald S hX G (i := 162) (kd := 284) (n := 270) (a := (upd (upd (upd (lt1M (lt0M d 40) 40) 58 y_15) 59 y_16) 60 y_17)) (x := ((lt1M (lt0M d 40) 40) 61)) (rfl : sh 162 = 284) up_eq rfl (by decide) (by unfold vp_in; decide) (show (upd (upd (upd (lt1M (lt0M d 40) 40) 58 y_15) 59 y_16) 60 y_17) (Int32.toNatClampNeg (61 : Int32)) = ((lt1M (lt0M d 40) 40) 61) from congrArg (upd (upd (upd (lt1M (lt0M d 40) 40) 58 y_15) 59 y_16) 60 y_17) (show Int32.toNatClampNeg (61 : Int32) = 61 from (by decide))) dX9_latches_114 ?_
            refine lv_iconst (v := (1 : Int32)) S.1 S.2.1 dX9_latches_115 (by decide) ?_
            refine s_iadd (v := (((lt1M (lt0M d 40) 40) 61) + (1 : Int32))) S dX9_latches_116 rfl ?_
            refine lv_topi (fun y_18 ey_18 => ?_)
            refine s_iast S hX G (i := 162) (kd := 284) (n := 270) (jn := 61) (a := (upd (upd (upd (lt1M (lt0M d 40) 40) 58 y_15) 59 y_16) 60 y_17)) (I' := (up I 162 (upd (upd (upd (upd (lt1M (lt0M d 40) 40) 58 y_15) 59 y_16) 60 y_17) 61 y_18))) (rfl : sh 162 = 284) up_eq (fun _ => rfl) (by decide) (by unfold vp_in; decide) (by decide) (by rw [up_up]) dX9_latches_117 (fun H locs G => ?_)
            refine lv_iinc (v := ((((0 : Int32) + i0M d 40) + i1M (lt0M d 40) 40) + 1)) (lv' := [(3, .int ((((0 : Int32) + i0M d 40) + i1M (lt0M d 40) 40) + 1)), (4, .int (2 : Int32)), (2, .int (40 : Int32)), (0, .ref (E.2.2.2 161)), (1, .int (0 : Int32))]) S.1 S.2.1 dX9_latches_118 hl (k := 1) rfl rfl (by decide) rfl (fun ls hl => ?_)
            refine lv_iinc (v := (3 : Int32)) (lv' := [(4, .int (3 : Int32)), (3, .int ((((0 : Int32) + i0M d 40) + i1M (lt0M d 40) 40) + 1)), (2, .int (40 : Int32)), (0, .ref (E.2.2.2 161)), (1, .int (0 : Int32))]) S.1 S.2.1 dX9_latches_121 hl (k := 1) rfl (by decide) (by decide) rfl (fun ls hl => ?_)
            refine lv_goto (tgt := 10) S.1 S.2.1 dX9_latches_124 (by decide) ?_
            exact kJ_12 ((((0 : Int32) + i0M d 40) + i1M (lt0M d 40) 40) + 1) _ _ _ _ _ ⟨(show ((((0 : Int32) + i0M d 40) + i1M (lt0M d 40) 40) + 1) = (((0 : Int32) + i0M d 40) + i1M (lt0M d 40) 40) + i2M (lt1M (lt0M d 40) 40) 40 by subst ey_18 ey_17 ey_16 ey_15; first | exact ite_p (And.intro c_13 c_14) _ | exact ite_p0 (And.intro c_13 c_14) | exact (ltF_p (d := (lt1M (lt0M d 40) 40)) (L := 40) (f := 2) (And.intro c_13 c_14)).symm), (st_eq1 (Eq.trans up_eq (show (upd (upd (upd (upd (lt1M (lt0M d 40) 40) 58 y_15) 59 y_16) 60 y_17) 61 y_18) = (lt2M (lt1M (lt0M d 40) 40) 40) by subst ey_18 ey_17 ey_16 ey_15; (first | exact ite_p (And.intro c_13 c_14) _ | exact ite_p0 (And.intro c_13 c_14) | exact (ltF_p (d := (lt1M (lt0M d 40) 40)) (L := 40) (f := 2) (And.intro c_13 c_14)).symm))) (fun _ g0 => (up_ne g0))), rfl⟩ G (lv_sub hl [0, 1, 2, 3, 4] rfl)
      · obtain ⟨h0, hI, hL⟩ := hP
        have h0 : x = ((((0 : Int32) + i0M d 40) + i1M (lt0M d 40) 40) + i2M (lt1M (lt0M d 40) 40) 40) := h0
        have hl : lv_has ls 5 [(4, .int (3 : Int32)), (3, .int x), (2, .int (40 : Int32)), (0, .ref (E.2.2.2 161)), (1, .int (0 : Int32))] := hl
        subst h0
        have G : GS E (up I 162 (lt2M (lt1M (lt0M d 40) 40) 40)) L sg H locs := G.same hI hL
        refine W.eq (g2 := F0 mg 10 ls []) rfl ?_
        refine lv_iload S.1 S.2.1 dX9_latches_10 (lv_at hl 0 rfl) ?_
        refine lv_iconst (v := (3 : Int32)) S.1 S.2.1 dX9_latches_12 (by decide) ?_
        refine lv_icmp_ge (tgt := 127) S.1 S.2.1 dX9_latches_13 (by decide) (fun _ => ?_) (fun h => absurd (by decide) h)
        refine lv_iload_n S.1 S.2.1 dX9_latches_127 rfl (lv_at hl 1 rfl) ?_
        refine s_iret (x := ((((0 : Int32) + i0M d 40) + i1M (lt0M d 40) 40) + i2M (lt1M (lt0M d 40) 40) 40)) S G hr hlk dX9_latches_128 ?_
        exact ⟨(congrArg (fun q : Int32 => some (Value.int q)) (show ((((0 : Int32) + i0M d 40) + i1M (lt0M d 40) 40) + i2M (lt1M (lt0M d 40) 40) 40) = (latR d 40) by rfl)), (st_eq1 (Eq.trans up_eq (show (lt2M (lt1M (lt0M d 40) 40) 40) = (latM d 40) by rfl)) (fun _ g0 => (up_ne g0))), rfl⟩
set_option maxHeartbeats 4000000 in
set_option maxRecDepth 100000 in
theorem k_X9_latches_1 (l : Launch) (E : Ev) {I : SI} {L : SL} (d : Nat → Int32) (e_d : I (162) = d) : CS l yX9_latches wsX9_latches ({ frames := 3, cells := 0, slots := 0, locals := 65 }) E [.ref (E.2.2.2 161), .int (1 : Int32)] I L (fun vv I' L' => vv = some (.int (latR d 70)) ∧ I' = (up I (162) (latM d 70)) ∧ L' = L) := by
  refine CS.of (cc := cX9_latches) (maxL := 5) (ret := (some .int)) (by decide) rfl (Nat.le_of_ble_eq_true rfl) ?_
  intro pg en sg mg below meth cg ls S hr hlk hX G hl
  have S : CallFix pg mg cg cX9_latches 5 sg _ wsX9_latches RX9 := S
  have hl : lv_has ls 5 [(0, .ref (E.2.2.2 161)), (1, .int (1 : Int32))] := hl
  refine lv_iload_n S.1 S.2.1 dX9_latches_0 rfl (lv_at hl 1 rfl) ?_
  refine s_callS (As := [.int (1 : Int32)]) (rest := []) S hX G (k_X9_loadAt_1 l E) (va_cwS (bytes := cX9_loadAt) (maxL := 1) (ret := (some .int)) 1 S.2.2.2.2 gX9_latches_X9_loadAt rfl rfl rfl (by decide +kernel) ⟨Nat.le_of_ble_eq_true rfl, Nat.le_of_ble_eq_true rfl⟩) rfl hl.1 rfl (Nat.le_of_ble_eq_true rfl) ⟨Nat.zero_le _, Nat.zero_le _⟩ dX9_latches_1 (fun v I1 L1 H locs hR G => ?_)
  obtain ⟨hv, hI, hL⟩ := hR
  subst hv
  have G : GS E I L sg H locs := G.same hI hL
  refine W.eq (g2 := F0 mg 4 ls [.int (70 : Int32)]) rfl ?_
  refine lv_istore_n (lv' := [(2, .int (70 : Int32)), (0, .ref (E.2.2.2 161)), (1, .int (1 : Int32))]) S.1 S.2.1 dX9_latches_4 rfl hl (by decide) rfl (fun ls hl => ?_)
  refine lv_iconst (v := (0 : Int32)) S.1 S.2.1 dX9_latches_5 (by decide) ?_
  refine lv_istore_n (lv' := [(3, .int (0 : Int32)), (2, .int (70 : Int32)), (0, .ref (E.2.2.2 161)), (1, .int (1 : Int32))]) S.1 S.2.1 dX9_latches_6 rfl hl (by decide) rfl (fun ls hl => ?_)
  refine lv_iconst (v := (0 : Int32)) S.1 S.2.1 dX9_latches_7 (by decide) ?_
  refine lv_istore (lv' := [(4, .int (0 : Int32)), (3, .int (0 : Int32)), (2, .int (70 : Int32)), (0, .ref (E.2.2.2 161)), (1, .int (1 : Int32))]) S.1 S.2.1 dX9_latches_8 hl (by decide) rfl (fun ls hl => ?_)
  refine s_cut (α := Int32) (nL := 5) (E := E) (fun x I' L' => x = ((0 : Int32) + i0M d 70) ∧ I' = (up I 162 (lt0M d 70)) ∧ L' = L) (fun x => [(4, .int (1 : Int32)), (3, .int x), (2, .int (70 : Int32)), (0, .ref (E.2.2.2 161)), (1, .int (1 : Int32))]) 10 (fun x => []) (fun kJ_1 => ?_) (fun x I1 L1 H locs ls hP G hl => ?_)
  · refine lv_iload S.1 S.2.1 dX9_latches_10 (lv_at hl 0 rfl) ?_
    refine lv_iconst (v := (3 : Int32)) S.1 S.2.1 dX9_latches_12 (by decide) ?_
    refine lv_icmp_ge (tgt := 127) S.1 S.2.1 dX9_latches_13 (by decide) (fun h => absurd h (by decide)) (fun _ => ?_)
    refine lv_aload_n S.1 S.2.1 dX9_latches_16 rfl (lv_at hl 3 rfl) ?_
    refine lv_iload_n S.1 S.2.1 dX9_latches_17 rfl (lv_at hl 4 rfl) ?_
    refine lv_iload S.1 S.2.1 dX9_latches_18 (lv_at hl 0 rfl) ?_
    refine s_callV (C := RX9) (As := [.int (1 : Int32), .int (0 : Int32)]) (rest := []) (i := 161) (kd := 9) S hX G (k_X9_isLatched_1_0 l E d e_d) (cwV (bytes := cX9_isLatched) (maxL := 3) (ret := (some .boolean)) 2 S.2.2.2.2 gX9_latches_X9_isLatched rfl rfl rfl (by decide +kernel) ⟨Nat.le_of_ble_eq_true rfl, Nat.le_of_ble_eq_true rfl⟩) (rfl : sh 161 = 9) rfl rfl rfl (by decide) rfl hl.1 rfl (Nat.le_of_ble_eq_true rfl) ⟨Nat.zero_le _, Nat.zero_le _⟩ dX9_latches_20 (fun v I1 L1 H locs hR G => ?_)
    obtain ⟨hv, hI, hL⟩ := hR
    subst hv
    have G : GS E I L sg H locs := G.same hI hL
    refine W.eq (g2 := F0 mg 23 ls [.int (if ¬ d 82 = -1 then 1 else 0)]) rfl ?_
    refine s_if_ne_b (P := ¬ d 82 = -1) (tgt := 121) S dX9_latches_23 (by decide) (fun c_2 => ?_) (fun c_2 => ?_)
    · refine lv_iinc (v := (1 : Int32)) (lv' := [(4, .int (1 : Int32)), (3, .int (0 : Int32)), (2, .int (70 : Int32)), (0, .ref (E.2.2.2 161)), (1, .int (1 : Int32))]) S.1 S.2.1 dX9_latches_121 hl (k := 0) rfl (by decide) (by decide) rfl (fun ls hl => ?_)
      refine lv_goto (tgt := 10) S.1 S.2.1 dX9_latches_124 (by decide) ?_
      exact kJ_1 (0 : Int32) _ _ _ _ _ ⟨(show (0 : Int32) = (0 : Int32) + i0M d 70 by first | exact ite_n (fun q => q.1 c_2) _ | exact ite_z0 (fun q => q.1 c_2) | exact (ltF_n (fun q => q.1 c_2)).symm), (st_eq1 (Eq.trans e_d (show d = (lt0M d 70) by first | exact ite_n (fun q => q.1 c_2) _ | exact ite_z0 (fun q => q.1 c_2) | exact (ltF_n (fun q => q.1 c_2)).symm)) (fun _ g0 => rfl)), rfl⟩ G (lv_sub hl [0, 1, 2, 3, 4] rfl)
    · refine lv_aload_n S.1 S.2.1 dX9_latches_26 rfl (lv_at hl 3 rfl) ?_
      refine lv_iload_n S.1 S.2.1 dX9_latches_27 rfl (lv_at hl 4 rfl) ?_
      refine lv_iload S.1 S.2.1 dX9_latches_28 (lv_at hl 0 rfl) ?_
      refine s_callV (C := RX9) (As := [.int (1 : Int32), .int (0 : Int32)]) (rest := []) (i := 161) (kd := 9) S hX G (k_X9_isSeen_1_0 l E d e_d) (cwV (bytes := cX9_isSeen) (maxL := 4) (ret := (some .boolean)) 2 S.2.2.2.2 gX9_latches_X9_isSeen rfl rfl rfl (by decide +kernel) ⟨Nat.le_of_ble_eq_true rfl, Nat.le_of_ble_eq_true rfl⟩) (rfl : sh 161 = 9) rfl rfl rfl (by decide) rfl hl.1 rfl (Nat.le_of_ble_eq_true rfl) ⟨Nat.zero_le _, Nat.zero_le _⟩ dX9_latches_30 (fun v I1 L1 H locs hR G => ?_)
      obtain ⟨hv, hI, hL⟩ := hR
      subst hv
      have G : GS E I L sg H locs := G.same hI hL
      refine W.eq (g2 := F0 mg 33 ls [.int (if d 78 = 0 ∧ ¬ absM (d 74) < d 3 then 1 else 0)]) rfl ?_
      refine s_if_eq_b (P := d 78 = 0 ∧ ¬ absM (d 74) < d 3) (tgt := 121) S dX9_latches_33 (by decide) (fun c_3 => ?_) (fun c_3 => ?_)
      · refine lv_iinc (v := (1 : Int32)) (lv' := [(4, .int (1 : Int32)), (3, .int (0 : Int32)), (2, .int (70 : Int32)), (0, .ref (E.2.2.2 161)), (1, .int (1 : Int32))]) S.1 S.2.1 dX9_latches_121 hl (k := 0) rfl (by decide) (by decide) rfl (fun ls hl => ?_)
        refine lv_goto (tgt := 10) S.1 S.2.1 dX9_latches_124 (by decide) ?_
        exact kJ_1 (0 : Int32) _ _ _ _ _ ⟨(show (0 : Int32) = (0 : Int32) + i0M d 70 by first | exact ite_n (fun q => c_3 q.2) _ | exact ite_z0 (fun q => c_3 q.2) | exact (ltF_n (fun q => c_3 q.2)).symm), (st_eq1 (Eq.trans e_d (show d = (lt0M d 70) by first | exact ite_n (fun q => c_3 q.2) _ | exact ite_z0 (fun q => c_3 q.2) | exact (ltF_n (fun q => c_3 q.2)).symm)) (fun _ g0 => rfl)), rfl⟩ G (lv_sub hl [0, 1, 2, 3, 4] rfl)
      · refine lv_aload_n S.1 S.2.1 dX9_latches_36 rfl (lv_at hl 3 rfl) ?_
        refine s_get S hX G (i := 161) (kd := 9) (a := (I 161)) (v := .ref (E.2.2.2 162)) (C := RX9) (T := TX9) (N := 13) 0 (rfl : sh 161 = 9) rfl rfl rfl (by decide) rfl (fun _ h => (List.mem_cons_of_mem _ (List.mem_append_right _ h))) (by decide) (List.mem_of_getElem? (i := 1) rfl) (fun _ h => h) dX9_latches_37 ?_
        refine lv_iload_n S.1 S.2.1 dX9_latches_40 rfl (lv_at hl 2 rfl) ?_
        refine lv_bipush (v := (12 : Int32)) S.1 S.2.1 dX9_latches_41 (by decide) ?_
        refine s_iadd (v := (82 : Int32)) S dX9_latches_43 (by decide) ?_
        refine lv_iconst (v := (3 : Int32)) S.1 S.2.1 dX9_latches_44 (by decide) ?_
        refine lv_iload S.1 S.2.1 dX9_latches_45 (lv_at hl 0 rfl) ?_
        refine s_imul (v := (0 : Int32)) S dX9_latches_47 (by decide) ?_
        refine s_iadd (v := (82 : Int32)) S dX9_latches_48 (by decide) ?_
        refine lv_aload_n S.1 S.2.1 dX9_latches_49 rfl (lv_at hl 3 rfl) ?_
        refine s_get S hX G (i := 161) (kd := 9) (a := (I 161)) (v := .ref (E.2.2.2 162)) (C := RX9) (T := TX9) (N := 13) 0 (rfl : sh 161 = 9) rfl rfl rfl (by decide) rfl (fun _ h => (List.mem_cons_of_mem _ (List.mem_append_right _ h))) (by decide) (List.mem_of_getElem? (i := 1) rfl) (fun _ h => h) dX9_latches_50 ?_
        refine lv_iconst (v := (0 : Int32)) S.1 S.2.1 dX9_latches_53 (by decide) ?_
        refine s_iald S hX G (i := 162) (kd := 284) (n := 270) (a := d) (x := (d 0)) (rfl : sh 162 = 284) e_d rfl (by decide) (by unfold vp_in; decide) (congrArg d (by decide)) dX9_latches_54 ?_
        refine s_iast S hX G (i := 162) (kd := 284) (n := 270) (jn := 82) (a := d) (I' := (up I 162 (upd d 82 (d 0)))) (rfl : sh 162 = 284) e_d (fun _ => rfl) (by decide) (by unfold vp_in; decide) (by decide) rfl dX9_latches_55 (fun H locs G => ?_)
        refine lv_aload_n S.1 S.2.1 dX9_latches_56 rfl (lv_at hl 3 rfl) ?_
        refine s_get S hX G (i := 161) (kd := 9) (a := (I 161)) (v := .ref (E.2.2.2 162)) (C := RX9) (T := TX9) (N := 13) 0 (rfl : sh 161 = 9) (up_ne (by decide)) rfl rfl (by decide) rfl (fun _ h => (List.mem_cons_of_mem _ (List.mem_append_right _ h))) (by decide) (List.mem_of_getElem? (i := 1) rfl) (fun _ h => h) dX9_latches_57 ?_
        refine lv_iload_n S.1 S.2.1 dX9_latches_60 rfl (lv_at hl 2 rfl) ?_
        refine lv_bipush (v := (12 : Int32)) S.1 S.2.1 dX9_latches_61 (by decide) ?_
        refine s_iadd (v := (82 : Int32)) S dX9_latches_63 (by decide) ?_
        refine lv_iconst (v := (3 : Int32)) S.1 S.2.1 dX9_latches_64 (by decide) ?_
        refine lv_iload S.1 S.2.1 dX9_latches_65 (lv_at hl 0 rfl) ?_
        refine s_imul (v := (0 : Int32)) S dX9_latches_67 (by decide) ?_
        refine s_iadd (v := (82 : Int32)) S dX9_latches_68 (by decide) ?_
        refine lv_iconst (v := (1 : Int32)) S.1 S.2.1 dX9_latches_69 (by decide) ?_
        refine s_iadd (v := (83 : Int32)) S dX9_latches_70 (by decide) ?_
        refine lv_aload_n S.1 S.2.1 dX9_latches_71 rfl (lv_at hl 3 rfl) ?_
        refine s_get S hX G (i := 161) (kd := 9) (a := (I 161)) (v := .ref (E.2.2.2 162)) (C := RX9) (T := TX9) (N := 13) 0 (rfl : sh 161 = 9) (up_ne (by decide)) rfl rfl (by decide) rfl (fun _ h => (List.mem_cons_of_mem _ (List.mem_append_right _ h))) (by decide) (List.mem_of_getElem? (i := 1) rfl) (fun _ h => h) dX9_latches_72 ?_
        refine lv_iload_n S.1 S.2.1 dX9_latches_75 rfl (lv_at hl 2 rfl) ?_
        refine lv_iconst (v := (4 : Int32)) S.1 S.2.1 dX9_latches_76 (by decide) ?_
        refine s_iadd (v := (74 : Int32)) S dX9_latches_77 (by decide) ?_
        refine s_iald S hX G (i := 162) (kd := 284) (n := 270) (a := (upd d 82 (d 0))) (x := (d 74)) (rfl : sh 162 = 284) up_eq rfl (by decide) (by unfold vp_in; decide) (show (upd d 82 (d 0)) (Int32.toNatClampNeg (74 : Int32)) = (d 74) from congrArg (upd d 82 (d 0)) (show Int32.toNatClampNeg (74 : Int32) = 74 from (by decide))) dX9_latches_78 ?_
        refine s_iast S hX G (i := 162) (kd := 284) (n := 270) (jn := 83) (a := (upd d 82 (d 0))) (I' := (up I 162 (upd (upd d 82 (d 0)) 83 (d 74)))) (rfl : sh 162 = 284) up_eq (fun _ => rfl) (by decide) (by unfold vp_in; decide) (by decide) (by rw [up_up]) dX9_latches_79 (fun H locs G => ?_)
        refine lv_aload_n S.1 S.2.1 dX9_latches_80 rfl (lv_at hl 3 rfl) ?_
        refine s_get S hX G (i := 161) (kd := 9) (a := (I 161)) (v := .ref (E.2.2.2 162)) (C := RX9) (T := TX9) (N := 13) 0 (rfl : sh 161 = 9) (up_ne (by decide)) rfl rfl (by decide) rfl (fun _ h => (List.mem_cons_of_mem _ (List.mem_append_right _ h))) (by decide) (List.mem_of_getElem? (i := 1) rfl) (fun _ h => h) dX9_latches_81 ?_
        refine lv_iload_n S.1 S.2.1 dX9_latches_84 rfl (lv_at hl 2 rfl) ?_
        refine lv_bipush (v := (12 : Int32)) S.1 S.2.1 dX9_latches_85 (by decide) ?_
        refine s_iadd (v := (82 : Int32)) S dX9_latches_87 (by decide) ?_
        refine lv_iconst (v := (3 : Int32)) S.1 S.2.1 dX9_latches_88 (by decide) ?_
        refine lv_iload S.1 S.2.1 dX9_latches_89 (lv_at hl 0 rfl) ?_
        refine s_imul (v := (0 : Int32)) S dX9_latches_91 (by decide) ?_
        refine s_iadd (v := (82 : Int32)) S dX9_latches_92 (by decide) ?_
        refine lv_iconst (v := (2 : Int32)) S.1 S.2.1 dX9_latches_93 (by decide) ?_
        refine s_iadd (v := (84 : Int32)) S dX9_latches_94 (by decide) ?_
        refine lv_aload_n S.1 S.2.1 dX9_latches_95 rfl (lv_at hl 3 rfl) ?_
        refine s_get S hX G (i := 161) (kd := 9) (a := (I 161)) (v := .ref (E.2.2.2 162)) (C := RX9) (T := TX9) (N := 13) 0 (rfl : sh 161 = 9) (up_ne (by decide)) rfl rfl (by decide) rfl (fun _ h => (List.mem_cons_of_mem _ (List.mem_append_right _ h))) (by decide) (List.mem_of_getElem? (i := 1) rfl) (fun _ h => h) dX9_latches_96 ?_
        refine lv_iload_n S.1 S.2.1 dX9_latches_99 rfl (lv_at hl 2 rfl) ?_
        refine lv_bipush (v := (21 : Int32)) S.1 S.2.1 dX9_latches_100 (by decide) ?_
        refine s_iadd (v := (91 : Int32)) S dX9_latches_102 (by decide) ?_
        refine s_iald S hX G (i := 162) (kd := 284) (n := 270) (a := (upd (upd d 82 (d 0)) 83 (d 74))) (x := (d 91)) (rfl : sh 162 = 284) up_eq rfl (by decide) (by unfold vp_in; decide) (show (upd (upd d 82 (d 0)) 83 (d 74)) (Int32.toNatClampNeg (91 : Int32)) = (d 91) from congrArg (upd (upd d 82 (d 0)) 83 (d 74)) (show Int32.toNatClampNeg (91 : Int32) = 91 from (by decide))) dX9_latches_103 ?_
        refine s_iast S hX G (i := 162) (kd := 284) (n := 270) (jn := 84) (a := (upd (upd d 82 (d 0)) 83 (d 74))) (I' := (up I 162 (upd (upd (upd d 82 (d 0)) 83 (d 74)) 84 (d 91)))) (rfl : sh 162 = 284) up_eq (fun _ => rfl) (by decide) (by unfold vp_in; decide) (by decide) (by rw [up_up]) dX9_latches_104 (fun H locs G => ?_)
        refine lv_aload_n S.1 S.2.1 dX9_latches_105 rfl (lv_at hl 3 rfl) ?_
        refine s_get S hX G (i := 161) (kd := 9) (a := (I 161)) (v := .ref (E.2.2.2 162)) (C := RX9) (T := TX9) (N := 13) 0 (rfl : sh 161 = 9) (up_ne (by decide)) rfl rfl (by decide) rfl (fun _ h => (List.mem_cons_of_mem _ (List.mem_append_right _ h))) (by decide) (List.mem_of_getElem? (i := 1) rfl) (fun _ h => h) dX9_latches_106 ?_
        refine lv_iload_n S.1 S.2.1 dX9_latches_109 rfl (lv_at hl 2 rfl) ?_
        refine lv_bipush (v := (21 : Int32)) S.1 S.2.1 dX9_latches_110 (by decide) ?_
        refine s_iadd (v := (91 : Int32)) S dX9_latches_112 (by decide) ?_
        refine lv_dup2_11 S.1 S.2.1 dX9_latches_113 rfl rfl ?_
        refine s_iald S hX G (i := 162) (kd := 284) (n := 270) (a := (upd (upd (upd d 82 (d 0)) 83 (d 74)) 84 (d 91))) (x := (d 91)) (rfl : sh 162 = 284) up_eq rfl (by decide) (by unfold vp_in; decide) (show (upd (upd (upd d 82 (d 0)) 83 (d 74)) 84 (d 91)) (Int32.toNatClampNeg (91 : Int32)) = (d 91) from congrArg (upd (upd (upd d 82 (d 0)) 83 (d 74)) 84 (d 91)) (show Int32.toNatClampNeg (91 : Int32) = 91 from (by decide))) dX9_latches_114 ?_
        refine lv_iconst (v := (1 : Int32)) S.1 S.2.1 dX9_latches_115 (by decide) ?_
        refine s_iadd (v := ((d 91) + (1 : Int32))) S dX9_latches_116 rfl ?_
        refine lv_topi (fun y_4 ey_4 => ?_)
        refine s_iast S hX G (i := 162) (kd := 284) (n := 270) (jn := 91) (a := (upd (upd (upd d 82 (d 0)) 83 (d 74)) 84 (d 91))) (I' := (up I 162 (upd (upd (upd (upd d 82 (d 0)) 83 (d 74)) 84 (d 91)) 91 y_4))) (rfl : sh 162 = 284) up_eq (fun _ => rfl) (by decide) (by unfold vp_in; decide) (by decide) (by rw [up_up]) dX9_latches_117 (fun H locs G => ?_)
        refine lv_iinc (v := (1 : Int32)) (lv' := [(3, .int (1 : Int32)), (4, .int (0 : Int32)), (2, .int (70 : Int32)), (0, .ref (E.2.2.2 161)), (1, .int (1 : Int32))]) S.1 S.2.1 dX9_latches_118 hl (k := 1) rfl (by decide) (by decide) rfl (fun ls hl => ?_)
        refine lv_iinc (v := (1 : Int32)) (lv' := [(4, .int (1 : Int32)), (3, .int (1 : Int32)), (2, .int (70 : Int32)), (0, .ref (E.2.2.2 161)), (1, .int (1 : Int32))]) S.1 S.2.1 dX9_latches_121 hl (k := 1) rfl (by decide) (by decide) rfl (fun ls hl => ?_)
        refine lv_goto (tgt := 10) S.1 S.2.1 dX9_latches_124 (by decide) ?_
        exact kJ_1 (1 : Int32) _ _ _ _ _ ⟨(show (1 : Int32) = (0 : Int32) + i0M d 70 by subst ey_4; first | exact ite_p (And.intro c_2 c_3) _ | exact ite_p0 (And.intro c_2 c_3) | exact (ltF_p (d := d) (L := 70) (f := 0) (And.intro c_2 c_3)).symm), (st_eq1 (Eq.trans up_eq (show (upd (upd (upd (upd d 82 (d 0)) 83 (d 74)) 84 (d 91)) 91 y_4) = (lt0M d 70) by subst ey_4; (first | exact ite_p (And.intro c_2 c_3) _ | exact ite_p0 (And.intro c_2 c_3) | exact (ltF_p (d := d) (L := 70) (f := 0) (And.intro c_2 c_3)).symm))) (fun _ g0 => (up_ne g0))), rfl⟩ G (lv_sub hl [0, 1, 2, 3, 4] rfl)
  · obtain ⟨h0, hI, hL⟩ := hP
    have h0 : x = ((0 : Int32) + i0M d 70) := h0
    have hl : lv_has ls 5 [(4, .int (1 : Int32)), (3, .int x), (2, .int (70 : Int32)), (0, .ref (E.2.2.2 161)), (1, .int (1 : Int32))] := hl
    subst h0
    have G : GS E (up I 162 (lt0M d 70)) L sg H locs := G.same hI hL
    refine W.eq (g2 := F0 mg 10 ls []) rfl ?_
    refine s_cut (α := Int32) (nL := 5) (E := E) (fun x I' L' => x = (((0 : Int32) + i0M d 70) + i1M (lt0M d 70) 70) ∧ I' = (up I 162 (lt1M (lt0M d 70) 70)) ∧ L' = L) (fun x => [(4, .int (2 : Int32)), (3, .int x), (2, .int (70 : Int32)), (0, .ref (E.2.2.2 161)), (1, .int (1 : Int32))]) 10 (fun x => []) (fun kJ_5 => ?_) (fun x I1 L1 H locs ls hP G hl => ?_)
    · refine lv_iload S.1 S.2.1 dX9_latches_10 (lv_at hl 0 rfl) ?_
      refine lv_iconst (v := (3 : Int32)) S.1 S.2.1 dX9_latches_12 (by decide) ?_
      refine lv_icmp_ge (tgt := 127) S.1 S.2.1 dX9_latches_13 (by decide) (fun h => absurd h (by decide)) (fun _ => ?_)
      refine lv_aload_n S.1 S.2.1 dX9_latches_16 rfl (lv_at hl 3 rfl) ?_
      refine lv_iload_n S.1 S.2.1 dX9_latches_17 rfl (lv_at hl 4 rfl) ?_
      refine lv_iload S.1 S.2.1 dX9_latches_18 (lv_at hl 0 rfl) ?_
      refine s_callV (C := RX9) (As := [.int (1 : Int32), .int (1 : Int32)]) (rest := []) (i := 161) (kd := 9) S hX G (k_X9_isLatched_1_1 l E (lt0M d 70) up_eq) (cwV (bytes := cX9_isLatched) (maxL := 3) (ret := (some .boolean)) 2 S.2.2.2.2 gX9_latches_X9_isLatched rfl rfl rfl (by decide +kernel) ⟨Nat.le_of_ble_eq_true rfl, Nat.le_of_ble_eq_true rfl⟩) (rfl : sh 161 = 9) rfl rfl rfl (by decide) rfl hl.1 rfl (Nat.le_of_ble_eq_true rfl) ⟨Nat.zero_le _, Nat.zero_le _⟩ dX9_latches_20 (fun v I1 L1 H locs hR G => ?_)
      obtain ⟨hv, hI, hL⟩ := hR
      subst hv
      have G : GS E (up I 162 (lt0M d 70)) L sg H locs := G.same hI hL
      refine W.eq (g2 := F0 mg 23 ls [.int (if ¬ (lt0M d 70) 85 = -1 then 1 else 0)]) rfl ?_
      refine s_if_ne_b (P := ¬ (lt0M d 70) 85 = -1) (tgt := 121) S dX9_latches_23 (by decide) (fun c_6 => ?_) (fun c_6 => ?_)
      · refine lv_iinc (v := (2 : Int32)) (lv' := [(4, .int (2 : Int32)), (3, .int ((0 : Int32) + i0M d 70)), (2, .int (70 : Int32)), (0, .ref (E.2.2.2 161)), (1, .int (1 : Int32))]) S.1 S.2.1 dX9_latches_121 hl (k := 0) rfl (by decide) (by decide) rfl (fun ls hl => ?_)
        refine lv_goto (tgt := 10) S.1 S.2.1 dX9_latches_124 (by decide) ?_
        exact kJ_5 ((0 : Int32) + i0M d 70) _ _ _ _ _ ⟨(show ((0 : Int32) + i0M d 70) = ((0 : Int32) + i0M d 70) + i1M (lt0M d 70) 70 by first | exact ite_n (fun q => q.1 c_6) _ | exact ite_z0 (fun q => q.1 c_6) | exact (ltF_n (fun q => q.1 c_6)).symm), (st_eq1 (Eq.trans up_eq (show (lt0M d 70) = (lt1M (lt0M d 70) 70) by first | exact ite_n (fun q => q.1 c_6) _ | exact ite_z0 (fun q => q.1 c_6) | exact (ltF_n (fun q => q.1 c_6)).symm)) (fun _ g0 => (up_ne g0))), rfl⟩ G (lv_sub hl [0, 1, 2, 3, 4] rfl)
      · refine lv_aload_n S.1 S.2.1 dX9_latches_26 rfl (lv_at hl 3 rfl) ?_
        refine lv_iload_n S.1 S.2.1 dX9_latches_27 rfl (lv_at hl 4 rfl) ?_
        refine lv_iload S.1 S.2.1 dX9_latches_28 (lv_at hl 0 rfl) ?_
        refine s_callV (C := RX9) (As := [.int (1 : Int32), .int (1 : Int32)]) (rest := []) (i := 161) (kd := 9) S hX G (k_X9_isSeen_1_1 l E (lt0M d 70) up_eq) (cwV (bytes := cX9_isSeen) (maxL := 4) (ret := (some .boolean)) 2 S.2.2.2.2 gX9_latches_X9_isSeen rfl rfl rfl (by decide +kernel) ⟨Nat.le_of_ble_eq_true rfl, Nat.le_of_ble_eq_true rfl⟩) (rfl : sh 161 = 9) rfl rfl rfl (by decide) rfl hl.1 rfl (Nat.le_of_ble_eq_true rfl) ⟨Nat.zero_le _, Nat.zero_le _⟩ dX9_latches_30 (fun v I1 L1 H locs hR G => ?_)
        obtain ⟨hv, hI, hL⟩ := hR
        subst hv
        have G : GS E (up I 162 (lt0M d 70)) L sg H locs := G.same hI hL
        refine W.eq (g2 := F0 mg 33 ls [.int (if ¬ (lt0M d 70) 80 < (lt0M d 70) 4 ∧ ¬ (lt0M d 70) 70 ≤ absM ((lt0M d 70) 74) then 1 else 0)]) rfl ?_
        refine s_if_eq_b (P := ¬ (lt0M d 70) 80 < (lt0M d 70) 4 ∧ ¬ (lt0M d 70) 70 ≤ absM ((lt0M d 70) 74)) (tgt := 121) S dX9_latches_33 (by decide) (fun c_7 => ?_) (fun c_7 => ?_)
        · refine lv_iinc (v := (2 : Int32)) (lv' := [(4, .int (2 : Int32)), (3, .int ((0 : Int32) + i0M d 70)), (2, .int (70 : Int32)), (0, .ref (E.2.2.2 161)), (1, .int (1 : Int32))]) S.1 S.2.1 dX9_latches_121 hl (k := 0) rfl (by decide) (by decide) rfl (fun ls hl => ?_)
          refine lv_goto (tgt := 10) S.1 S.2.1 dX9_latches_124 (by decide) ?_
          exact kJ_5 ((0 : Int32) + i0M d 70) _ _ _ _ _ ⟨(show ((0 : Int32) + i0M d 70) = ((0 : Int32) + i0M d 70) + i1M (lt0M d 70) 70 by first | exact ite_n (fun q => c_7 q.2) _ | exact ite_z0 (fun q => c_7 q.2) | exact (ltF_n (fun q => c_7 q.2)).symm), (st_eq1 (Eq.trans up_eq (show (lt0M d 70) = (lt1M (lt0M d 70) 70) by first | exact ite_n (fun q => c_7 q.2) _ | exact ite_z0 (fun q => c_7 q.2) | exact (ltF_n (fun q => c_7 q.2)).symm)) (fun _ g0 => (up_ne g0))), rfl⟩ G (lv_sub hl [0, 1, 2, 3, 4] rfl)
        · refine lv_aload_n S.1 S.2.1 dX9_latches_36 rfl (lv_at hl 3 rfl) ?_
          refine s_get S hX G (i := 161) (kd := 9) (a := (I 161)) (v := .ref (E.2.2.2 162)) (C := RX9) (T := TX9) (N := 13) 0 (rfl : sh 161 = 9) (up_ne (by decide)) rfl rfl (by decide) rfl (fun _ h => (List.mem_cons_of_mem _ (List.mem_append_right _ h))) (by decide) (List.mem_of_getElem? (i := 1) rfl) (fun _ h => h) dX9_latches_37 ?_
          refine lv_iload_n S.1 S.2.1 dX9_latches_40 rfl (lv_at hl 2 rfl) ?_
          refine lv_bipush (v := (12 : Int32)) S.1 S.2.1 dX9_latches_41 (by decide) ?_
          refine s_iadd (v := (82 : Int32)) S dX9_latches_43 (by decide) ?_
          refine lv_iconst (v := (3 : Int32)) S.1 S.2.1 dX9_latches_44 (by decide) ?_
          refine lv_iload S.1 S.2.1 dX9_latches_45 (lv_at hl 0 rfl) ?_
          refine s_imul (v := (3 : Int32)) S dX9_latches_47 (by decide) ?_
          refine s_iadd (v := (85 : Int32)) S dX9_latches_48 (by decide) ?_
          refine lv_aload_n S.1 S.2.1 dX9_latches_49 rfl (lv_at hl 3 rfl) ?_
          refine s_get S hX G (i := 161) (kd := 9) (a := (I 161)) (v := .ref (E.2.2.2 162)) (C := RX9) (T := TX9) (N := 13) 0 (rfl : sh 161 = 9) (up_ne (by decide)) rfl rfl (by decide) rfl (fun _ h => (List.mem_cons_of_mem _ (List.mem_append_right _ h))) (by decide) (List.mem_of_getElem? (i := 1) rfl) (fun _ h => h) dX9_latches_50 ?_
          refine lv_iconst (v := (0 : Int32)) S.1 S.2.1 dX9_latches_53 (by decide) ?_
          refine s_iald S hX G (i := 162) (kd := 284) (n := 270) (a := (lt0M d 70)) (x := ((lt0M d 70) 0)) (rfl : sh 162 = 284) up_eq rfl (by decide) (by unfold vp_in; decide) (congrArg (lt0M d 70) (by decide)) dX9_latches_54 ?_
          refine lv_topi (fun y_8 ey_8 => ?_)
          refine s_iast S hX G (i := 162) (kd := 284) (n := 270) (jn := 85) (a := (lt0M d 70)) (I' := (up I 162 (upd (lt0M d 70) 85 y_8))) (rfl : sh 162 = 284) up_eq (fun _ => rfl) (by decide) (by unfold vp_in; decide) (by decide) (by rw [up_up]) dX9_latches_55 (fun H locs G => ?_)
          refine lv_aload_n S.1 S.2.1 dX9_latches_56 rfl (lv_at hl 3 rfl) ?_
          refine s_get S hX G (i := 161) (kd := 9) (a := (I 161)) (v := .ref (E.2.2.2 162)) (C := RX9) (T := TX9) (N := 13) 0 (rfl : sh 161 = 9) (up_ne (by decide)) rfl rfl (by decide) rfl (fun _ h => (List.mem_cons_of_mem _ (List.mem_append_right _ h))) (by decide) (List.mem_of_getElem? (i := 1) rfl) (fun _ h => h) dX9_latches_57 ?_
          refine lv_iload_n S.1 S.2.1 dX9_latches_60 rfl (lv_at hl 2 rfl) ?_
          refine lv_bipush (v := (12 : Int32)) S.1 S.2.1 dX9_latches_61 (by decide) ?_
          refine s_iadd (v := (82 : Int32)) S dX9_latches_63 (by decide) ?_
          refine lv_iconst (v := (3 : Int32)) S.1 S.2.1 dX9_latches_64 (by decide) ?_
          refine lv_iload S.1 S.2.1 dX9_latches_65 (lv_at hl 0 rfl) ?_
          refine s_imul (v := (3 : Int32)) S dX9_latches_67 (by decide) ?_
          refine s_iadd (v := (85 : Int32)) S dX9_latches_68 (by decide) ?_
          refine lv_iconst (v := (1 : Int32)) S.1 S.2.1 dX9_latches_69 (by decide) ?_
          refine s_iadd (v := (86 : Int32)) S dX9_latches_70 (by decide) ?_
          refine lv_aload_n S.1 S.2.1 dX9_latches_71 rfl (lv_at hl 3 rfl) ?_
          refine s_get S hX G (i := 161) (kd := 9) (a := (I 161)) (v := .ref (E.2.2.2 162)) (C := RX9) (T := TX9) (N := 13) 0 (rfl : sh 161 = 9) (up_ne (by decide)) rfl rfl (by decide) rfl (fun _ h => (List.mem_cons_of_mem _ (List.mem_append_right _ h))) (by decide) (List.mem_of_getElem? (i := 1) rfl) (fun _ h => h) dX9_latches_72 ?_
          refine lv_iload_n S.1 S.2.1 dX9_latches_75 rfl (lv_at hl 2 rfl) ?_
          refine lv_iconst (v := (4 : Int32)) S.1 S.2.1 dX9_latches_76 (by decide) ?_
          refine s_iadd (v := (74 : Int32)) S dX9_latches_77 (by decide) ?_
          refine s_iald S hX G (i := 162) (kd := 284) (n := 270) (a := (upd (lt0M d 70) 85 y_8)) (x := ((lt0M d 70) 74)) (rfl : sh 162 = 284) up_eq rfl (by decide) (by unfold vp_in; decide) (show (upd (lt0M d 70) 85 y_8) (Int32.toNatClampNeg (74 : Int32)) = ((lt0M d 70) 74) from congrArg (upd (lt0M d 70) 85 y_8) (show Int32.toNatClampNeg (74 : Int32) = 74 from (by decide))) dX9_latches_78 ?_
          refine lv_topi (fun y_9 ey_9 => ?_)
          refine s_iast S hX G (i := 162) (kd := 284) (n := 270) (jn := 86) (a := (upd (lt0M d 70) 85 y_8)) (I' := (up I 162 (upd (upd (lt0M d 70) 85 y_8) 86 y_9))) (rfl : sh 162 = 284) up_eq (fun _ => rfl) (by decide) (by unfold vp_in; decide) (by decide) (by rw [up_up]) dX9_latches_79 (fun H locs G => ?_)
          refine lv_aload_n S.1 S.2.1 dX9_latches_80 rfl (lv_at hl 3 rfl) ?_
          refine s_get S hX G (i := 161) (kd := 9) (a := (I 161)) (v := .ref (E.2.2.2 162)) (C := RX9) (T := TX9) (N := 13) 0 (rfl : sh 161 = 9) (up_ne (by decide)) rfl rfl (by decide) rfl (fun _ h => (List.mem_cons_of_mem _ (List.mem_append_right _ h))) (by decide) (List.mem_of_getElem? (i := 1) rfl) (fun _ h => h) dX9_latches_81 ?_
          refine lv_iload_n S.1 S.2.1 dX9_latches_84 rfl (lv_at hl 2 rfl) ?_
          refine lv_bipush (v := (12 : Int32)) S.1 S.2.1 dX9_latches_85 (by decide) ?_
          refine s_iadd (v := (82 : Int32)) S dX9_latches_87 (by decide) ?_
          refine lv_iconst (v := (3 : Int32)) S.1 S.2.1 dX9_latches_88 (by decide) ?_
          refine lv_iload S.1 S.2.1 dX9_latches_89 (lv_at hl 0 rfl) ?_
          refine s_imul (v := (3 : Int32)) S dX9_latches_91 (by decide) ?_
          refine s_iadd (v := (85 : Int32)) S dX9_latches_92 (by decide) ?_
          refine lv_iconst (v := (2 : Int32)) S.1 S.2.1 dX9_latches_93 (by decide) ?_
          refine s_iadd (v := (87 : Int32)) S dX9_latches_94 (by decide) ?_
          refine lv_aload_n S.1 S.2.1 dX9_latches_95 rfl (lv_at hl 3 rfl) ?_
          refine s_get S hX G (i := 161) (kd := 9) (a := (I 161)) (v := .ref (E.2.2.2 162)) (C := RX9) (T := TX9) (N := 13) 0 (rfl : sh 161 = 9) (up_ne (by decide)) rfl rfl (by decide) rfl (fun _ h => (List.mem_cons_of_mem _ (List.mem_append_right _ h))) (by decide) (List.mem_of_getElem? (i := 1) rfl) (fun _ h => h) dX9_latches_96 ?_
          refine lv_iload_n S.1 S.2.1 dX9_latches_99 rfl (lv_at hl 2 rfl) ?_
          refine lv_bipush (v := (21 : Int32)) S.1 S.2.1 dX9_latches_100 (by decide) ?_
          refine s_iadd (v := (91 : Int32)) S dX9_latches_102 (by decide) ?_
          refine s_iald S hX G (i := 162) (kd := 284) (n := 270) (a := (upd (upd (lt0M d 70) 85 y_8) 86 y_9)) (x := ((lt0M d 70) 91)) (rfl : sh 162 = 284) up_eq rfl (by decide) (by unfold vp_in; decide) (show (upd (upd (lt0M d 70) 85 y_8) 86 y_9) (Int32.toNatClampNeg (91 : Int32)) = ((lt0M d 70) 91) from congrArg (upd (upd (lt0M d 70) 85 y_8) 86 y_9) (show Int32.toNatClampNeg (91 : Int32) = 91 from (by decide))) dX9_latches_103 ?_
          refine lv_topi (fun y_10 ey_10 => ?_)
          refine s_iast S hX G (i := 162) (kd := 284) (n := 270) (jn := 87) (a := (upd (upd (lt0M d 70) 85 y_8) 86 y_9)) (I' := (up I 162 (upd (upd (upd (lt0M d 70) 85 y_8) 86 y_9) 87 y_10))) (rfl : sh 162 = 284) up_eq (fun _ => rfl) (by decide) (by unfold vp_in; decide) (by decide) (by rw [up_up]) dX9_latches_104 (fun H locs G => ?_)
          refine lv_aload_n S.1 S.2.1 dX9_latches_105 rfl (lv_at hl 3 rfl) ?_
          refine s_get S hX G (i := 161) (kd := 9) (a := (I 161)) (v := .ref (E.2.2.2 162)) (C := RX9) (T := TX9) (N := 13) 0 (rfl : sh 161 = 9) (up_ne (by decide)) rfl rfl (by decide) rfl (fun _ h => (List.mem_cons_of_mem _ (List.mem_append_right _ h))) (by decide) (List.mem_of_getElem? (i := 1) rfl) (fun _ h => h) dX9_latches_106 ?_
          refine lv_iload_n S.1 S.2.1 dX9_latches_109 rfl (lv_at hl 2 rfl) ?_
          refine lv_bipush (v := (21 : Int32)) S.1 S.2.1 dX9_latches_110 (by decide) ?_
          refine s_iadd (v := (91 : Int32)) S dX9_latches_112 (by decide) ?_
          refine lv_dup2_11 S.1 S.2.1 dX9_latches_113 rfl rfl ?_
          refine s_iald S hX G (i := 162) (kd := 284) (n := 270) (a := (upd (upd (upd (lt0M d 70) 85 y_8) 86 y_9) 87 y_10)) (x := ((lt0M d 70) 91)) (rfl : sh 162 = 284) up_eq rfl (by decide) (by unfold vp_in; decide) (show (upd (upd (upd (lt0M d 70) 85 y_8) 86 y_9) 87 y_10) (Int32.toNatClampNeg (91 : Int32)) = ((lt0M d 70) 91) from congrArg (upd (upd (upd (lt0M d 70) 85 y_8) 86 y_9) 87 y_10) (show Int32.toNatClampNeg (91 : Int32) = 91 from (by decide))) dX9_latches_114 ?_
          refine lv_iconst (v := (1 : Int32)) S.1 S.2.1 dX9_latches_115 (by decide) ?_
          refine s_iadd (v := (((lt0M d 70) 91) + (1 : Int32))) S dX9_latches_116 rfl ?_
          refine lv_topi (fun y_11 ey_11 => ?_)
          refine s_iast S hX G (i := 162) (kd := 284) (n := 270) (jn := 91) (a := (upd (upd (upd (lt0M d 70) 85 y_8) 86 y_9) 87 y_10)) (I' := (up I 162 (upd (upd (upd (upd (lt0M d 70) 85 y_8) 86 y_9) 87 y_10) 91 y_11))) (rfl : sh 162 = 284) up_eq (fun _ => rfl) (by decide) (by unfold vp_in; decide) (by decide) (by rw [up_up]) dX9_latches_117 (fun H locs G => ?_)
          refine lv_iinc (v := (((0 : Int32) + i0M d 70) + 1)) (lv' := [(3, .int (((0 : Int32) + i0M d 70) + 1)), (4, .int (1 : Int32)), (2, .int (70 : Int32)), (0, .ref (E.2.2.2 161)), (1, .int (1 : Int32))]) S.1 S.2.1 dX9_latches_118 hl (k := 1) rfl rfl (by decide) rfl (fun ls hl => ?_)
          refine lv_iinc (v := (2 : Int32)) (lv' := [(4, .int (2 : Int32)), (3, .int (((0 : Int32) + i0M d 70) + 1)), (2, .int (70 : Int32)), (0, .ref (E.2.2.2 161)), (1, .int (1 : Int32))]) S.1 S.2.1 dX9_latches_121 hl (k := 1) rfl (by decide) (by decide) rfl (fun ls hl => ?_)
          refine lv_goto (tgt := 10) S.1 S.2.1 dX9_latches_124 (by decide) ?_
          exact kJ_5 (((0 : Int32) + i0M d 70) + 1) _ _ _ _ _ ⟨(show (((0 : Int32) + i0M d 70) + 1) = ((0 : Int32) + i0M d 70) + i1M (lt0M d 70) 70 by subst ey_11 ey_10 ey_9 ey_8; first | exact ite_p (And.intro c_6 c_7) _ | exact ite_p0 (And.intro c_6 c_7) | exact (ltF_p (d := (lt0M d 70)) (L := 70) (f := 1) (And.intro c_6 c_7)).symm), (st_eq1 (Eq.trans up_eq (show (upd (upd (upd (upd (lt0M d 70) 85 y_8) 86 y_9) 87 y_10) 91 y_11) = (lt1M (lt0M d 70) 70) by subst ey_11 ey_10 ey_9 ey_8; (first | exact ite_p (And.intro c_6 c_7) _ | exact ite_p0 (And.intro c_6 c_7) | exact (ltF_p (d := (lt0M d 70)) (L := 70) (f := 1) (And.intro c_6 c_7)).symm))) (fun _ g0 => (up_ne g0))), rfl⟩ G (lv_sub hl [0, 1, 2, 3, 4] rfl)
    · obtain ⟨h0, hI, hL⟩ := hP
      have h0 : x = (((0 : Int32) + i0M d 70) + i1M (lt0M d 70) 70) := h0
      have hl : lv_has ls 5 [(4, .int (2 : Int32)), (3, .int x), (2, .int (70 : Int32)), (0, .ref (E.2.2.2 161)), (1, .int (1 : Int32))] := hl
      subst h0
      have G : GS E (up I 162 (lt1M (lt0M d 70) 70)) L sg H locs := G.same hI hL
      refine W.eq (g2 := F0 mg 10 ls []) rfl ?_
      refine s_cut (α := Int32) (nL := 5) (E := E) (fun x I' L' => x = ((((0 : Int32) + i0M d 70) + i1M (lt0M d 70) 70) + i2M (lt1M (lt0M d 70) 70) 70) ∧ I' = (up I 162 (lt2M (lt1M (lt0M d 70) 70) 70)) ∧ L' = L) (fun x => [(4, .int (3 : Int32)), (3, .int x), (2, .int (70 : Int32)), (0, .ref (E.2.2.2 161)), (1, .int (1 : Int32))]) 10 (fun x => []) (fun kJ_12 => ?_) (fun x I1 L1 H locs ls hP G hl => ?_)
      · refine lv_iload S.1 S.2.1 dX9_latches_10 (lv_at hl 0 rfl) ?_
        refine lv_iconst (v := (3 : Int32)) S.1 S.2.1 dX9_latches_12 (by decide) ?_
        refine lv_icmp_ge (tgt := 127) S.1 S.2.1 dX9_latches_13 (by decide) (fun h => absurd h (by decide)) (fun _ => ?_)
        refine lv_aload_n S.1 S.2.1 dX9_latches_16 rfl (lv_at hl 3 rfl) ?_
        refine lv_iload_n S.1 S.2.1 dX9_latches_17 rfl (lv_at hl 4 rfl) ?_
        refine lv_iload S.1 S.2.1 dX9_latches_18 (lv_at hl 0 rfl) ?_
        refine s_callV (C := RX9) (As := [.int (1 : Int32), .int (2 : Int32)]) (rest := []) (i := 161) (kd := 9) S hX G (k_X9_isLatched_1_2 l E (lt1M (lt0M d 70) 70) up_eq) (cwV (bytes := cX9_isLatched) (maxL := 3) (ret := (some .boolean)) 2 S.2.2.2.2 gX9_latches_X9_isLatched rfl rfl rfl (by decide +kernel) ⟨Nat.le_of_ble_eq_true rfl, Nat.le_of_ble_eq_true rfl⟩) (rfl : sh 161 = 9) rfl rfl rfl (by decide) rfl hl.1 rfl (Nat.le_of_ble_eq_true rfl) ⟨Nat.zero_le _, Nat.zero_le _⟩ dX9_latches_20 (fun v I1 L1 H locs hR G => ?_)
        obtain ⟨hv, hI, hL⟩ := hR
        subst hv
        have G : GS E (up I 162 (lt1M (lt0M d 70) 70)) L sg H locs := G.same hI hL
        refine W.eq (g2 := F0 mg 23 ls [.int (if ¬ (lt1M (lt0M d 70) 70) 88 = -1 then 1 else 0)]) rfl ?_
        refine s_if_ne_b (P := ¬ (lt1M (lt0M d 70) 70) 88 = -1) (tgt := 121) S dX9_latches_23 (by decide) (fun c_13 => ?_) (fun c_13 => ?_)
        · refine lv_iinc (v := (3 : Int32)) (lv' := [(4, .int (3 : Int32)), (3, .int (((0 : Int32) + i0M d 70) + i1M (lt0M d 70) 70)), (2, .int (70 : Int32)), (0, .ref (E.2.2.2 161)), (1, .int (1 : Int32))]) S.1 S.2.1 dX9_latches_121 hl (k := 0) rfl (by decide) (by decide) rfl (fun ls hl => ?_)
          refine lv_goto (tgt := 10) S.1 S.2.1 dX9_latches_124 (by decide) ?_
          exact kJ_12 (((0 : Int32) + i0M d 70) + i1M (lt0M d 70) 70) _ _ _ _ _ ⟨(show (((0 : Int32) + i0M d 70) + i1M (lt0M d 70) 70) = (((0 : Int32) + i0M d 70) + i1M (lt0M d 70) 70) + i2M (lt1M (lt0M d 70) 70) 70 by first | exact ite_n (fun q => q.1 c_13) _ | exact ite_z0 (fun q => q.1 c_13) | exact (ltF_n (fun q => q.1 c_13)).symm), (st_eq1 (Eq.trans up_eq (show (lt1M (lt0M d 70) 70) = (lt2M (lt1M (lt0M d 70) 70) 70) by first | exact ite_n (fun q => q.1 c_13) _ | exact ite_z0 (fun q => q.1 c_13) | exact (ltF_n (fun q => q.1 c_13)).symm)) (fun _ g0 => (up_ne g0))), rfl⟩ G (lv_sub hl [0, 1, 2, 3, 4] rfl)
        · refine lv_aload_n S.1 S.2.1 dX9_latches_26 rfl (lv_at hl 3 rfl) ?_
          refine lv_iload_n S.1 S.2.1 dX9_latches_27 rfl (lv_at hl 4 rfl) ?_
          refine lv_iload S.1 S.2.1 dX9_latches_28 (lv_at hl 0 rfl) ?_
          refine s_callV (C := RX9) (As := [.int (1 : Int32), .int (2 : Int32)]) (rest := []) (i := 161) (kd := 9) S hX G (k_X9_isSeen_1_2 l E (lt1M (lt0M d 70) 70) up_eq) (cwV (bytes := cX9_isSeen) (maxL := 4) (ret := (some .boolean)) 2 S.2.2.2.2 gX9_latches_X9_isSeen rfl rfl rfl (by decide +kernel) ⟨Nat.le_of_ble_eq_true rfl, Nat.le_of_ble_eq_true rfl⟩) (rfl : sh 161 = 9) rfl rfl rfl (by decide) rfl hl.1 rfl (Nat.le_of_ble_eq_true rfl) ⟨Nat.zero_le _, Nat.zero_le _⟩ dX9_latches_30 (fun v I1 L1 H locs hR G => ?_)
          obtain ⟨hv, hI, hL⟩ := hR
          subst hv
          have G : GS E (up I 162 (lt1M (lt0M d 70) 70)) L sg H locs := G.same hI hL
          refine W.eq (g2 := F0 mg 33 ls [.int (if ¬ (lt1M (lt0M d 70) 70) 75 < (lt1M (lt0M d 70) 70) 5 then 1 else 0)]) rfl ?_
          refine s_if_eq_b (P := ¬ (lt1M (lt0M d 70) 70) 75 < (lt1M (lt0M d 70) 70) 5) (tgt := 121) S dX9_latches_33 (by decide) (fun c_14 => ?_) (fun c_14 => ?_)
          · refine lv_iinc (v := (3 : Int32)) (lv' := [(4, .int (3 : Int32)), (3, .int (((0 : Int32) + i0M d 70) + i1M (lt0M d 70) 70)), (2, .int (70 : Int32)), (0, .ref (E.2.2.2 161)), (1, .int (1 : Int32))]) S.1 S.2.1 dX9_latches_121 hl (k := 0) rfl (by decide) (by decide) rfl (fun ls hl => ?_)
            refine lv_goto (tgt := 10) S.1 S.2.1 dX9_latches_124 (by decide) ?_
            exact kJ_12 (((0 : Int32) + i0M d 70) + i1M (lt0M d 70) 70) _ _ _ _ _ ⟨(show (((0 : Int32) + i0M d 70) + i1M (lt0M d 70) 70) = (((0 : Int32) + i0M d 70) + i1M (lt0M d 70) 70) + i2M (lt1M (lt0M d 70) 70) 70 by first | exact ite_n (fun q => c_14 q.2) _ | exact ite_z0 (fun q => c_14 q.2) | exact (ltF_n (fun q => c_14 q.2)).symm), (st_eq1 (Eq.trans up_eq (show (lt1M (lt0M d 70) 70) = (lt2M (lt1M (lt0M d 70) 70) 70) by first | exact ite_n (fun q => c_14 q.2) _ | exact ite_z0 (fun q => c_14 q.2) | exact (ltF_n (fun q => c_14 q.2)).symm)) (fun _ g0 => (up_ne g0))), rfl⟩ G (lv_sub hl [0, 1, 2, 3, 4] rfl)
          · refine lv_aload_n S.1 S.2.1 dX9_latches_36 rfl (lv_at hl 3 rfl) ?_
            refine s_get S hX G (i := 161) (kd := 9) (a := (I 161)) (v := .ref (E.2.2.2 162)) (C := RX9) (T := TX9) (N := 13) 0 (rfl : sh 161 = 9) (up_ne (by decide)) rfl rfl (by decide) rfl (fun _ h => (List.mem_cons_of_mem _ (List.mem_append_right _ h))) (by decide) (List.mem_of_getElem? (i := 1) rfl) (fun _ h => h) dX9_latches_37 ?_
            refine lv_iload_n S.1 S.2.1 dX9_latches_40 rfl (lv_at hl 2 rfl) ?_
            refine lv_bipush (v := (12 : Int32)) S.1 S.2.1 dX9_latches_41 (by decide) ?_
            refine s_iadd (v := (82 : Int32)) S dX9_latches_43 (by decide) ?_
            refine lv_iconst (v := (3 : Int32)) S.1 S.2.1 dX9_latches_44 (by decide) ?_
            refine lv_iload S.1 S.2.1 dX9_latches_45 (lv_at hl 0 rfl) ?_
            refine s_imul (v := (6 : Int32)) S dX9_latches_47 (by decide) ?_
            refine s_iadd (v := (88 : Int32)) S dX9_latches_48 (by decide) ?_
            refine lv_aload_n S.1 S.2.1 dX9_latches_49 rfl (lv_at hl 3 rfl) ?_
            refine s_get S hX G (i := 161) (kd := 9) (a := (I 161)) (v := .ref (E.2.2.2 162)) (C := RX9) (T := TX9) (N := 13) 0 (rfl : sh 161 = 9) (up_ne (by decide)) rfl rfl (by decide) rfl (fun _ h => (List.mem_cons_of_mem _ (List.mem_append_right _ h))) (by decide) (List.mem_of_getElem? (i := 1) rfl) (fun _ h => h) dX9_latches_50 ?_
            refine lv_iconst (v := (0 : Int32)) S.1 S.2.1 dX9_latches_53 (by decide) ?_
            refine s_iald S hX G (i := 162) (kd := 284) (n := 270) (a := (lt1M (lt0M d 70) 70)) (x := ((lt1M (lt0M d 70) 70) 0)) (rfl : sh 162 = 284) up_eq rfl (by decide) (by unfold vp_in; decide) (congrArg (lt1M (lt0M d 70) 70) (by decide)) dX9_latches_54 ?_
            refine lv_topi (fun y_15 ey_15 => ?_)
            refine s_iast S hX G (i := 162) (kd := 284) (n := 270) (jn := 88) (a := (lt1M (lt0M d 70) 70)) (I' := (up I 162 (upd (lt1M (lt0M d 70) 70) 88 y_15))) (rfl : sh 162 = 284) up_eq (fun _ => rfl) (by decide) (by unfold vp_in; decide) (by decide) (by rw [up_up]) dX9_latches_55 (fun H locs G => ?_)
            refine lv_aload_n S.1 S.2.1 dX9_latches_56 rfl (lv_at hl 3 rfl) ?_
            refine s_get S hX G (i := 161) (kd := 9) (a := (I 161)) (v := .ref (E.2.2.2 162)) (C := RX9) (T := TX9) (N := 13) 0 (rfl : sh 161 = 9) (up_ne (by decide)) rfl rfl (by decide) rfl (fun _ h => (List.mem_cons_of_mem _ (List.mem_append_right _ h))) (by decide) (List.mem_of_getElem? (i := 1) rfl) (fun _ h => h) dX9_latches_57 ?_
            refine lv_iload_n S.1 S.2.1 dX9_latches_60 rfl (lv_at hl 2 rfl) ?_
            refine lv_bipush (v := (12 : Int32)) S.1 S.2.1 dX9_latches_61 (by decide) ?_
            refine s_iadd (v := (82 : Int32)) S dX9_latches_63 (by decide) ?_
            refine lv_iconst (v := (3 : Int32)) S.1 S.2.1 dX9_latches_64 (by decide) ?_
            refine lv_iload S.1 S.2.1 dX9_latches_65 (lv_at hl 0 rfl) ?_
            refine s_imul (v := (6 : Int32)) S dX9_latches_67 (by decide) ?_
            refine s_iadd (v := (88 : Int32)) S dX9_latches_68 (by decide) ?_
            refine lv_iconst (v := (1 : Int32)) S.1 S.2.1 dX9_latches_69 (by decide) ?_
            refine s_iadd (v := (89 : Int32)) S dX9_latches_70 (by decide) ?_
            refine lv_aload_n S.1 S.2.1 dX9_latches_71 rfl (lv_at hl 3 rfl) ?_
            refine s_get S hX G (i := 161) (kd := 9) (a := (I 161)) (v := .ref (E.2.2.2 162)) (C := RX9) (T := TX9) (N := 13) 0 (rfl : sh 161 = 9) (up_ne (by decide)) rfl rfl (by decide) rfl (fun _ h => (List.mem_cons_of_mem _ (List.mem_append_right _ h))) (by decide) (List.mem_of_getElem? (i := 1) rfl) (fun _ h => h) dX9_latches_72 ?_
            refine lv_iload_n S.1 S.2.1 dX9_latches_75 rfl (lv_at hl 2 rfl) ?_
            refine lv_iconst (v := (4 : Int32)) S.1 S.2.1 dX9_latches_76 (by decide) ?_
            refine s_iadd (v := (74 : Int32)) S dX9_latches_77 (by decide) ?_
            refine s_iald S hX G (i := 162) (kd := 284) (n := 270) (a := (upd (lt1M (lt0M d 70) 70) 88 y_15)) (x := ((lt1M (lt0M d 70) 70) 74)) (rfl : sh 162 = 284) up_eq rfl (by decide) (by unfold vp_in; decide) (show (upd (lt1M (lt0M d 70) 70) 88 y_15) (Int32.toNatClampNeg (74 : Int32)) = ((lt1M (lt0M d 70) 70) 74) from congrArg (upd (lt1M (lt0M d 70) 70) 88 y_15) (show Int32.toNatClampNeg (74 : Int32) = 74 from (by decide))) dX9_latches_78 ?_
            refine lv_topi (fun y_16 ey_16 => ?_)
            refine s_iast S hX G (i := 162) (kd := 284) (n := 270) (jn := 89) (a := (upd (lt1M (lt0M d 70) 70) 88 y_15)) (I' := (up I 162 (upd (upd (lt1M (lt0M d 70) 70) 88 y_15) 89 y_16))) (rfl : sh 162 = 284) up_eq (fun _ => rfl) (by decide) (by unfold vp_in; decide) (by decide) (by rw [up_up]) dX9_latches_79 (fun H locs G => ?_)
            refine lv_aload_n S.1 S.2.1 dX9_latches_80 rfl (lv_at hl 3 rfl) ?_
            refine s_get S hX G (i := 161) (kd := 9) (a := (I 161)) (v := .ref (E.2.2.2 162)) (C := RX9) (T := TX9) (N := 13) 0 (rfl : sh 161 = 9) (up_ne (by decide)) rfl rfl (by decide) rfl (fun _ h => (List.mem_cons_of_mem _ (List.mem_append_right _ h))) (by decide) (List.mem_of_getElem? (i := 1) rfl) (fun _ h => h) dX9_latches_81 ?_
            refine lv_iload_n S.1 S.2.1 dX9_latches_84 rfl (lv_at hl 2 rfl) ?_
            refine lv_bipush (v := (12 : Int32)) S.1 S.2.1 dX9_latches_85 (by decide) ?_
            refine s_iadd (v := (82 : Int32)) S dX9_latches_87 (by decide) ?_
            refine lv_iconst (v := (3 : Int32)) S.1 S.2.1 dX9_latches_88 (by decide) ?_
            refine lv_iload S.1 S.2.1 dX9_latches_89 (lv_at hl 0 rfl) ?_
            refine s_imul (v := (6 : Int32)) S dX9_latches_91 (by decide) ?_
            refine s_iadd (v := (88 : Int32)) S dX9_latches_92 (by decide) ?_
            refine lv_iconst (v := (2 : Int32)) S.1 S.2.1 dX9_latches_93 (by decide) ?_
            refine s_iadd (v := (90 : Int32)) S dX9_latches_94 (by decide) ?_
            refine lv_aload_n S.1 S.2.1 dX9_latches_95 rfl (lv_at hl 3 rfl) ?_
            refine s_get S hX G (i := 161) (kd := 9) (a := (I 161)) (v := .ref (E.2.2.2 162)) (C := RX9) (T := TX9) (N := 13) 0 (rfl : sh 161 = 9) (up_ne (by decide)) rfl rfl (by decide) rfl (fun _ h => (List.mem_cons_of_mem _ (List.mem_append_right _ h))) (by decide) (List.mem_of_getElem? (i := 1) rfl) (fun _ h => h) dX9_latches_96 ?_
            refine lv_iload_n S.1 S.2.1 dX9_latches_99 rfl (lv_at hl 2 rfl) ?_
            refine lv_bipush (v := (21 : Int32)) S.1 S.2.1 dX9_latches_100 (by decide) ?_
            refine s_iadd (v := (91 : Int32)) S dX9_latches_102 (by decide) ?_
            refine s_iald S hX G (i := 162) (kd := 284) (n := 270) (a := (upd (upd (lt1M (lt0M d 70) 70) 88 y_15) 89 y_16)) (x := ((lt1M (lt0M d 70) 70) 91)) (rfl : sh 162 = 284) up_eq rfl (by decide) (by unfold vp_in; decide) (show (upd (upd (lt1M (lt0M d 70) 70) 88 y_15) 89 y_16) (Int32.toNatClampNeg (91 : Int32)) = ((lt1M (lt0M d 70) 70) 91) from congrArg (upd (upd (lt1M (lt0M d 70) 70) 88 y_15) 89 y_16) (show Int32.toNatClampNeg (91 : Int32) = 91 from (by decide))) dX9_latches_103 ?_
            refine lv_topi (fun y_17 ey_17 => ?_)
            refine s_iast S hX G (i := 162) (kd := 284) (n := 270) (jn := 90) (a := (upd (upd (lt1M (lt0M d 70) 70) 88 y_15) 89 y_16)) (I' := (up I 162 (upd (upd (upd (lt1M (lt0M d 70) 70) 88 y_15) 89 y_16) 90 y_17))) (rfl : sh 162 = 284) up_eq (fun _ => rfl) (by decide) (by unfold vp_in; decide) (by decide) (by rw [up_up]) dX9_latches_104 (fun H locs G => ?_)
            refine lv_aload_n S.1 S.2.1 dX9_latches_105 rfl (lv_at hl 3 rfl) ?_
            refine s_get S hX G (i := 161) (kd := 9) (a := (I 161)) (v := .ref (E.2.2.2 162)) (C := RX9) (T := TX9) (N := 13) 0 (rfl : sh 161 = 9) (up_ne (by decide)) rfl rfl (by decide) rfl (fun _ h => (List.mem_cons_of_mem _ (List.mem_append_right _ h))) (by decide) (List.mem_of_getElem? (i := 1) rfl) (fun _ h => h) dX9_latches_106 ?_
            refine lv_iload_n S.1 S.2.1 dX9_latches_109 rfl (lv_at hl 2 rfl) ?_
            refine lv_bipush (v := (21 : Int32)) S.1 S.2.1 dX9_latches_110 (by decide) ?_
            refine s_iadd (v := (91 : Int32)) S dX9_latches_112 (by decide) ?_
            refine lv_dup2_11 S.1 S.2.1 dX9_latches_113 rfl rfl ?_
            refine s_iald S hX G (i := 162) (kd := 284) (n := 270) (a := (upd (upd (upd (lt1M (lt0M d 70) 70) 88 y_15) 89 y_16) 90 y_17)) (x := ((lt1M (lt0M d 70) 70) 91)) (rfl : sh 162 = 284) up_eq rfl (by decide) (by unfold vp_in; decide) (show (upd (upd (upd (lt1M (lt0M d 70) 70) 88 y_15) 89 y_16) 90 y_17) (Int32.toNatClampNeg (91 : Int32)) = ((lt1M (lt0M d 70) 70) 91) from congrArg (upd (upd (upd (lt1M (lt0M d 70) 70) 88 y_15) 89 y_16) 90 y_17) (show Int32.toNatClampNeg (91 : Int32) = 91 from (by decide))) dX9_latches_114 ?_
            refine lv_iconst (v := (1 : Int32)) S.1 S.2.1 dX9_latches_115 (by decide) ?_
            refine s_iadd (v := (((lt1M (lt0M d 70) 70) 91) + (1 : Int32))) S dX9_latches_116 rfl ?_
            refine lv_topi (fun y_18 ey_18 => ?_)
            refine s_iast S hX G (i := 162) (kd := 284) (n := 270) (jn := 91) (a := (upd (upd (upd (lt1M (lt0M d 70) 70) 88 y_15) 89 y_16) 90 y_17)) (I' := (up I 162 (upd (upd (upd (upd (lt1M (lt0M d 70) 70) 88 y_15) 89 y_16) 90 y_17) 91 y_18))) (rfl : sh 162 = 284) up_eq (fun _ => rfl) (by decide) (by unfold vp_in; decide) (by decide) (by rw [up_up]) dX9_latches_117 (fun H locs G => ?_)
            refine lv_iinc (v := ((((0 : Int32) + i0M d 70) + i1M (lt0M d 70) 70) + 1)) (lv' := [(3, .int ((((0 : Int32) + i0M d 70) + i1M (lt0M d 70) 70) + 1)), (4, .int (2 : Int32)), (2, .int (70 : Int32)), (0, .ref (E.2.2.2 161)), (1, .int (1 : Int32))]) S.1 S.2.1 dX9_latches_118 hl (k := 1) rfl rfl (by decide) rfl (fun ls hl => ?_)
            refine lv_iinc (v := (3 : Int32)) (lv' := [(4, .int (3 : Int32)), (3, .int ((((0 : Int32) + i0M d 70) + i1M (lt0M d 70) 70) + 1)), (2, .int (70 : Int32)), (0, .ref (E.2.2.2 161)), (1, .int (1 : Int32))]) S.1 S.2.1 dX9_latches_121 hl (k := 1) rfl (by decide) (by decide) rfl (fun ls hl => ?_)
            refine lv_goto (tgt := 10) S.1 S.2.1 dX9_latches_124 (by decide) ?_
            exact kJ_12 ((((0 : Int32) + i0M d 70) + i1M (lt0M d 70) 70) + 1) _ _ _ _ _ ⟨(show ((((0 : Int32) + i0M d 70) + i1M (lt0M d 70) 70) + 1) = (((0 : Int32) + i0M d 70) + i1M (lt0M d 70) 70) + i2M (lt1M (lt0M d 70) 70) 70 by subst ey_18 ey_17 ey_16 ey_15; first | exact ite_p (And.intro c_13 c_14) _ | exact ite_p0 (And.intro c_13 c_14) | exact (ltF_p (d := (lt1M (lt0M d 70) 70)) (L := 70) (f := 2) (And.intro c_13 c_14)).symm), (st_eq1 (Eq.trans up_eq (show (upd (upd (upd (upd (lt1M (lt0M d 70) 70) 88 y_15) 89 y_16) 90 y_17) 91 y_18) = (lt2M (lt1M (lt0M d 70) 70) 70) by subst ey_18 ey_17 ey_16 ey_15; (first | exact ite_p (And.intro c_13 c_14) _ | exact ite_p0 (And.intro c_13 c_14) | exact (ltF_p (d := (lt1M (lt0M d 70) 70)) (L := 70) (f := 2) (And.intro c_13 c_14)).symm))) (fun _ g0 => (up_ne g0))), rfl⟩ G (lv_sub hl [0, 1, 2, 3, 4] rfl)
      · obtain ⟨h0, hI, hL⟩ := hP
        have h0 : x = ((((0 : Int32) + i0M d 70) + i1M (lt0M d 70) 70) + i2M (lt1M (lt0M d 70) 70) 70) := h0
        have hl : lv_has ls 5 [(4, .int (3 : Int32)), (3, .int x), (2, .int (70 : Int32)), (0, .ref (E.2.2.2 161)), (1, .int (1 : Int32))] := hl
        subst h0
        have G : GS E (up I 162 (lt2M (lt1M (lt0M d 70) 70) 70)) L sg H locs := G.same hI hL
        refine W.eq (g2 := F0 mg 10 ls []) rfl ?_
        refine lv_iload S.1 S.2.1 dX9_latches_10 (lv_at hl 0 rfl) ?_
        refine lv_iconst (v := (3 : Int32)) S.1 S.2.1 dX9_latches_12 (by decide) ?_
        refine lv_icmp_ge (tgt := 127) S.1 S.2.1 dX9_latches_13 (by decide) (fun _ => ?_) (fun h => absurd (by decide) h)
        refine lv_iload_n S.1 S.2.1 dX9_latches_127 rfl (lv_at hl 1 rfl) ?_
        refine s_iret (x := ((((0 : Int32) + i0M d 70) + i1M (lt0M d 70) 70) + i2M (lt1M (lt0M d 70) 70) 70)) S G hr hlk dX9_latches_128 ?_
        exact ⟨(congrArg (fun q : Int32 => some (Value.int q)) (show ((((0 : Int32) + i0M d 70) + i1M (lt0M d 70) 70) + i2M (lt1M (lt0M d 70) 70) 70) = (latR d 70) by rfl)), (st_eq1 (Eq.trans up_eq (show (lt2M (lt1M (lt0M d 70) 70) 70) = (latM d 70) by rfl)) (fun _ g0 => (up_ne g0))), rfl⟩
