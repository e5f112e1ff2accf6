theorem upd_upd2 {a : Nat → Int32} {k : Nat} {x y : Int32} : upd (upd a k x) k y = upd a k y := by
  funext z
  unfold upd
  by_cases h : z = k <;> simp [h]
def recA (d wa : Nat → Int32) : Nat → Int32 := va_cpy d (va_cpy wa wa 270 0 810) 0 810 270
def recSA (lz : Nat → Int64) (v : Int64) : Nat → Int64 := vp_updL (vp_updL (vp_updL (vp_updL lz 0 (lz 1)) 1 (lz 2)) 2 (lz 3)) 3 v
set_option maxHeartbeats 4000000 in
set_option maxRecDepth 100000 in
theorem k_X9_records_4 (l : Launch) (E : Ev) {I : SI} {L : SL} (mx : Nat → Int32) (d : Nat → Int32) (wa : Nat → Int32) (lx : Nat → Int64) (lz : Nat → Int64) (e_mx : I (161) = mx) (e_d : I (162) = d) (e_wa : I (163) = wa) (e_lx : L (161) = lx) (e_lz : L (164) = lz) (hx : mx 2 = nI 4) : CS l yX9_records wsX9_records ({ frames := 0, cells := 0, slots := 0, locals := 0 }) E [.ref (E.2.2.2 161)] I L (fun vv I' L' => vv = none ∧ I' = (up (up I (161) (upd mx 2 (nI 4))) (163) (recA d wa)) ∧ L' = (upL L (164) (recSA lz (lx 3)))) := by
  refine CS.of (cc := cX9_records) (maxL := 2) (ret := none) (by decide) rfl (Nat.le_of_ble_eq_true rfl) ?_
  intro pg en sg mg below meth cg ls S hr hlk hX G hl
  have S : CallFix pg mg cg cX9_records 2 sg _ wsX9_records RX9 := S
  have hl : lv_has ls 2 [(0, .ref (E.2.2.2 161))] := hl
  refine lv_aload_n S.1 S.2.1 dX9_records_0 rfl (lv_at hl 0 rfl) ?_
  refine s_get S hX G (i := 161) (kd := 9) (a := mx) (v := .int (mx 2)) (C := RX9) (T := TX9) (N := 13) 2 (rfl : sh 161 = 9) e_mx rfl rfl (by decide) rfl (fun _ h => (List.mem_cons_of_mem _ (List.mem_append_right _ h))) (by decide) (List.mem_of_getElem? (i := 1) rfl) (fun _ h => h) dX9_records_1 ?_
  refine s_conv (y := (nI 4)) hx ?_
  refine lv_iconst (v := (4 : Int32)) S.1 S.2.1 dX9_records_4 (by decide) ?_
  refine lv_icmp_ne (tgt := 76) S.1 S.2.1 dX9_records_5 (by decide) (fun h => absurd (rfl : nI 4 = (4 : Int32)) h) (fun _ => ?_)
  refine lv_iconst (v := (0 : Int32)) S.1 S.2.1 dX9_records_8 (by decide) ?_
  refine lv_istore_n (lv' := [(1, .int (0 : Int32)), (0, .ref (E.2.2.2 161))]) S.1 S.2.1 dX9_records_9 rfl hl (by decide) rfl (fun ls hl => ?_)
  refine s_loop (α := Nat) (nL := 2) (E := E) (fun nn x I' L' => nn = 810 - x ∧ x ≤ 810 ∧ I' = (up I 163 (va_cpy wa wa 270 0 x)) ∧ L' = L) (fun x => [(1, .int (nI x)), (0, .ref (E.2.2.2 161))]) 10 (fun x => []) (fun nn ih_1 x I1 L1 H locs ls hP G hl => ?_) _ 0 ⟨rfl, (Nat.zero_le _), (up_same (Eq.trans e_wa cp_0.symm)), rfl⟩ G (lv_sub hl [0, 1] rfl)
  obtain ⟨k, rfl⟩ : ∃ z, z = x := ⟨x, rfl⟩
  obtain ⟨hn, hk, hIc, hLc⟩ := hP
  have hn : nn = 810 - k := hn
  obtain ⟨I_b, rfl⟩ : ∃ z, z = I1 := ⟨I1, rfl⟩
  obtain ⟨L_b, rfl⟩ : ∃ z, z = L1 := ⟨L1, rfl⟩
  have hk : k ≤ 810 := hk
  have hIc : I_b = (up I 163 (va_cpy wa wa 270 0 k)) := hIc
  have hLc : L_b = L := hLc
  have hl : lv_has ls 2 [(1, .int (nI k)), (0, .ref (E.2.2.2 161))] := hl
  refine W.eq (g2 := F0 mg 10 ls []) rfl ?_
  have G : GS E (up I 163 (va_cpy wa wa 270 0 k)) L sg H locs := G.same hIc hLc
  rcases Nat.lt_or_ge k 810 with hlt | hge
  · have hlt : k < 810 := hlt
    refine lv_iload_n S.1 S.2.1 dX9_records_10 rfl (lv_at hl 0 rfl) ?_
    refine lv_sipush (v := (810 : Int32)) S.1 S.2.1 dX9_records_11 (by decide) ?_
    refine lv_icmp_ge (tgt := 39) S.1 S.2.1 dX9_records_14 (by decide) (fun h => absurd h (nI_ge (b := 810) hlt (by decide))) (fun _ => ?_)
    refine lv_aload_n S.1 S.2.1 dX9_records_17 rfl (lv_at hl 1 rfl) ?_
    refine s_get S hX G (i := 161) (kd := 9) (a := mx) (v := .ref (E.2.2.2 163)) (C := RX9) (T := TX9) (N := 13) 1 (rfl : sh 161 = 9) ((up_ne (by decide)).trans e_mx) rfl rfl (by decide) rfl (fun _ h => (List.mem_cons_of_mem _ (List.mem_append_right _ h))) (by decide) (List.mem_of_getElem? (i := 2) rfl) (fun _ h => h) dX9_records_18 ?_
    refine lv_iload_n S.1 S.2.1 dX9_records_21 rfl (lv_at hl 0 rfl) ?_
    refine lv_aload_n S.1 S.2.1 dX9_records_22 rfl (lv_at hl 1 rfl) ?_
    refine s_get S hX G (i := 161) (kd := 9) (a := mx) (v := .ref (E.2.2.2 163)) (C := RX9) (T := TX9) (N := 13) 1 (rfl : sh 161 = 9) ((up_ne (by decide)).trans e_mx) rfl rfl (by decide) rfl (fun _ h => (List.mem_cons_of_mem _ (List.mem_append_right _ h))) (by decide) (List.mem_of_getElem? (i := 2) rfl) (fun _ h => h) dX9_records_23 ?_
    refine lv_iload_n S.1 S.2.1 dX9_records_26 rfl (lv_at hl 0 rfl) ?_
    refine lv_sipush (v := (270 : Int32)) S.1 S.2.1 dX9_records_27 (by decide) ?_
    refine s_iadd (v := (nI (k + 270))) S dX9_records_30 (nI_add k 270) ?_
    refine s_iald S hX G (i := 163) (kd := 1094) (n := 1080) (a := (va_cpy wa wa 270 0 k)) (x := ((va_cpy wa wa 270 0 k) (k + 270))) (rfl : sh 163 = 1094) up_eq rfl (by decide) (vp_in_nI (by omega) (by decide)) (congrArg (va_cpy wa wa 270 0 k) (nI_clamp (by omega))) dX9_records_31 ?_
    refine lv_topi (fun y_2 ey_2 => ?_)
    refine s_iast S hX G (i := 163) (kd := 1094) (n := 1080) (jn := k) (a := (va_cpy wa wa 270 0 k)) (I' := (up I 163 (upd (va_cpy wa wa 270 0 k) k y_2))) (rfl : sh 163 = 1094) up_eq (fun _ => rfl) (by decide) (vp_in_nI (by omega) (by decide)) (nI_clamp (by omega)) (by rw [up_up]) dX9_records_32 (fun H locs G => ?_)
    refine lv_iinc (v := (nI (k + 1))) (lv' := [(1, .int (nI (k + 1))), (0, .ref (E.2.2.2 161))]) S.1 S.2.1 dX9_records_33 hl (k := 0) rfl (nI_1 k) (by decide) rfl (fun ls hl => ?_)
    refine lv_goto (tgt := 10) S.1 S.2.1 dX9_records_36 (by decide) ?_
    exact ih_1 _ (show 810 - (k + 1) < nn by omega) (k + 1) _ _ _ _ _ ⟨rfl, (by omega), (by subst ey_2; exact congrArg (up I 163) cp_sh), rfl⟩ G (lv_sub hl [0, 1] rfl)
  · have hkn : k = 810 := by omega
    subst hkn
    refine lv_iload_n S.1 S.2.1 dX9_records_10 rfl (lv_at hl 0 rfl) ?_
    refine lv_sipush (v := (810 : Int32)) S.1 S.2.1 dX9_records_11 (by decide) ?_
    refine lv_icmp_ge (tgt := 39) S.1 S.2.1 dX9_records_14 (by decide) (fun _ => ?_) (fun h => absurd (nI_le (a := 810) (b := 810) (by decide) (by decide)) h)
    refine lv_iconst (v := (0 : Int32)) S.1 S.2.1 dX9_records_39 (by decide) ?_
    refine lv_istore_n (lv' := [(1, .int (0 : Int32)), (0, .ref (E.2.2.2 161))]) S.1 S.2.1 dX9_records_40 rfl hl (by decide) rfl (fun ls hl => ?_)
    refine lv_iload_n S.1 S.2.1 dX9_records_41 rfl (lv_at hl 0 rfl) ?_
    refine lv_iconst (v := (3 : Int32)) S.1 S.2.1 dX9_records_42 (by decide) ?_
    refine lv_icmp_ge (tgt := 66) S.1 S.2.1 dX9_records_43 (by decide) (fun h => absurd h (by decide)) (fun _ => ?_)
    refine lv_aload_n S.1 S.2.1 dX9_records_46 rfl (lv_at hl 1 rfl) ?_
    refine s_get S hX G (i := 161) (kd := 9) (a := mx) (v := .ref (E.2.2.2 164)) (C := RX9) (T := TX9) (N := 13) 4 (rfl : sh 161 = 9) ((up_ne (by decide)).trans e_mx) rfl rfl (by decide) rfl (fun _ h => (List.mem_cons_of_mem _ (List.mem_append_right _ h))) (by decide) (List.mem_of_getElem? (i := 3) rfl) (fun _ h => h) dX9_records_47 ?_
    refine lv_iload_n S.1 S.2.1 dX9_records_50 rfl (lv_at hl 0 rfl) ?_
    refine lv_aload_n S.1 S.2.1 dX9_records_51 rfl (lv_at hl 1 rfl) ?_
    refine s_get S hX G (i := 161) (kd := 9) (a := mx) (v := .ref (E.2.2.2 164)) (C := RX9) (T := TX9) (N := 13) 4 (rfl : sh 161 = 9) ((up_ne (by decide)).trans e_mx) rfl rfl (by decide) rfl (fun _ h => (List.mem_cons_of_mem _ (List.mem_append_right _ h))) (by decide) (List.mem_of_getElem? (i := 3) rfl) (fun _ h => h) dX9_records_52 ?_
    refine lv_iload_n S.1 S.2.1 dX9_records_55 rfl (lv_at hl 0 rfl) ?_
    refine lv_iconst (v := (1 : Int32)) S.1 S.2.1 dX9_records_56 (by decide) ?_
    refine s_iadd (v := (1 : Int32)) S dX9_records_57 (by decide) ?_
    refine s_lald S hX G (i := 164) (b := lz) (x := (lz 1)) (rfl : sh 164 = 12) e_lz (by unfold vp_in; decide) (congrArg lz (by decide)) dX9_records_58 ?_
    refine s_last S hX G (i := 164) (jn := 0) (b := lz) (L' := (upL L 164 (vp_updL lz 0 (lz 1)))) (rfl : sh 164 = 12) e_lz (by unfold vp_in; decide) (by decide) rfl dX9_records_59 (fun H locs G => ?_)
    refine lv_iinc (v := (1 : Int32)) (lv' := [(1, .int (1 : Int32)), (0, .ref (E.2.2.2 161))]) S.1 S.2.1 dX9_records_60 hl (k := 0) rfl (by decide) (by decide) rfl (fun ls hl => ?_)
    refine lv_goto (tgt := 41) S.1 S.2.1 dX9_records_63 (by decide) ?_
    refine lv_iload_n S.1 S.2.1 dX9_records_41 rfl (lv_at hl 0 rfl) ?_
    refine lv_iconst (v := (3 : Int32)) S.1 S.2.1 dX9_records_42 (by decide) ?_
    refine lv_icmp_ge (tgt := 66) S.1 S.2.1 dX9_records_43 (by decide) (fun h => absurd h (by decide)) (fun _ => ?_)
    refine lv_aload_n S.1 S.2.1 dX9_records_46 rfl (lv_at hl 1 rfl) ?_
    refine s_get S hX G (i := 161) (kd := 9) (a := mx) (v := .ref (E.2.2.2 164)) (C := RX9) (T := TX9) (N := 13) 4 (rfl : sh 161 = 9) ((up_ne (by decide)).trans e_mx) rfl rfl (by decide) rfl (fun _ h => (List.mem_cons_of_mem _ (List.mem_append_right _ h))) (by decide) (List.mem_of_getElem? (i := 3) rfl) (fun _ h => h) dX9_records_47 ?_
    refine lv_iload_n S.1 S.2.1 dX9_records_50 rfl (lv_at hl 0 rfl) ?_
    refine lv_aload_n S.1 S.2.1 dX9_records_51 rfl (lv_at hl 1 rfl) ?_
    refine s_get S hX G (i := 161) (kd := 9) (a := mx) (v := .ref (E.2.2.2 164)) (C := RX9) (T := TX9) (N := 13) 4 (rfl : sh 161 = 9) ((up_ne (by decide)).trans e_mx) rfl rfl (by decide) rfl (fun _ h => (List.mem_cons_of_mem _ (List.mem_append_right _ h))) (by decide) (List.mem_of_getElem? (i := 3) rfl) (fun _ h => h) dX9_records_52 ?_
    refine lv_iload_n S.1 S.2.1 dX9_records_55 rfl (lv_at hl 0 rfl) ?_
    refine lv_iconst (v := (1 : Int32)) S.1 S.2.1 dX9_records_56 (by decide) ?_
    refine s_iadd (v := (2 : Int32)) S dX9_records_57 (by decide) ?_
    refine s_lald S hX G (i := 164) (b := (vp_updL lz 0 (lz 1))) (x := (lz 2)) (rfl : sh 164 = 12) upL_eq (by unfold vp_in; decide) (show (vp_updL lz 0 (lz 1)) (Int32.toNatClampNeg (2 : Int32)) = (lz 2) from congrArg (vp_updL lz 0 (lz 1)) (show Int32.toNatClampNeg (2 : Int32) = 2 from (by decide))) dX9_records_58 ?_
    refine s_last S hX G (i := 164) (jn := 1) (b := (vp_updL lz 0 (lz 1))) (L' := (upL L 164 (vp_updL (vp_updL lz 0 (lz 1)) 1 (lz 2)))) (rfl : sh 164 = 12) upL_eq (by unfold vp_in; decide) (by decide) (by rw [upL_upL]) dX9_records_59 (fun H locs G => ?_)
    refine lv_iinc (v := (2 : Int32)) (lv' := [(1, .int (2 : Int32)), (0, .ref (E.2.2.2 161))]) S.1 S.2.1 dX9_records_60 hl (k := 0) rfl (by decide) (by decide) rfl (fun ls hl => ?_)
    refine lv_goto (tgt := 41) S.1 S.2.1 dX9_records_63 (by decide) ?_
    refine lv_iload_n S.1 S.2.1 dX9_records_41 rfl (lv_at hl 0 rfl) ?_
    refine lv_iconst (v := (3 : Int32)) S.1 S.2.1 dX9_records_42 (by decide) ?_
    refine lv_icmp_ge (tgt := 66) S.1 S.2.1 dX9_records_43 (by decide) (fun h => absurd h (by decide)) (fun _ => ?_)
    refine lv_aload_n S.1 S.2.1 dX9_records_46 rfl (lv_at hl 1 rfl) ?_
    refine s_get S hX G (i := 161) (kd := 9) (a := mx) (v := .ref (E.2.2.2 164)) (C := RX9) (T := TX9) (N := 13) 4 (rfl : sh 161 = 9) ((up_ne (by decide)).trans e_mx) rfl rfl (by decide) rfl (fun _ h => (List.mem_cons_of_mem _ (List.mem_append_right _ h))) (by decide) (List.mem_of_getElem? (i := 3) rfl) (fun _ h => h) dX9_records_47 ?_
    refine lv_iload_n S.1 S.2.1 dX9_records_50 rfl (lv_at hl 0 rfl) ?_
    refine lv_aload_n S.1 S.2.1 dX9_records_51 rfl (lv_at hl 1 rfl) ?_
    refine s_get S hX G (i := 161) (kd := 9) (a := mx) (v := .ref (E.2.2.2 164)) (C := RX9) (T := TX9) (N := 13) 4 (rfl : sh 161 = 9) ((up_ne (by decide)).trans e_mx) rfl rfl (by decide) rfl (fun _ h => (List.mem_cons_of_mem _ (List.mem_append_right _ h))) (by decide) (List.mem_of_getElem? (i := 3) rfl) (fun _ h => h) dX9_records_52 ?_
    refine lv_iload_n S.1 S.2.1 dX9_records_55 rfl (lv_at hl 0 rfl) ?_
    refine lv_iconst (v := (1 : Int32)) S.1 S.2.1 dX9_records_56 (by decide) ?_
    refine s_iadd (v := (3 : Int32)) S dX9_records_57 (by decide) ?_
    refine s_lald S hX G (i := 164) (b := (vp_updL (vp_updL lz 0 (lz 1)) 1 (lz 2))) (x := (lz 3)) (rfl : sh 164 = 12) upL_eq (by unfold vp_in; decide) (show (vp_updL (vp_updL lz 0 (lz 1)) 1 (lz 2)) (Int32.toNatClampNeg (3 : Int32)) = (lz 3) from congrArg (vp_updL (vp_updL lz 0 (lz 1)) 1 (lz 2)) (show Int32.toNatClampNeg (3 : Int32) = 3 from (by decide))) dX9_records_58 ?_
    refine s_last S hX G (i := 164) (jn := 2) (b := (vp_updL (vp_updL lz 0 (lz 1)) 1 (lz 2))) (L' := (upL L 164 (vp_updL (vp_updL (vp_updL lz 0 (lz 1)) 1 (lz 2)) 2 (lz 3)))) (rfl : sh 164 = 12) upL_eq (by unfold vp_in; decide) (by decide) (by rw [upL_upL]) dX9_records_59 (fun H locs G => ?_)
    refine lv_iinc (v := (3 : Int32)) (lv' := [(1, .int (3 : Int32)), (0, .ref (E.2.2.2 161))]) S.1 S.2.1 dX9_records_60 hl (k := 0) rfl (by decide) (by decide) rfl (fun ls hl => ?_)
    refine lv_goto (tgt := 41) S.1 S.2.1 dX9_records_63 (by decide) ?_
    refine lv_iload_n S.1 S.2.1 dX9_records_41 rfl (lv_at hl 0 rfl) ?_
    refine lv_iconst (v := (3 : Int32)) S.1 S.2.1 dX9_records_42 (by decide) ?_
    refine lv_icmp_ge (tgt := 66) S.1 S.2.1 dX9_records_43 (by decide) (fun _ => ?_) (fun h => absurd (by decide) h)
    refine lv_aload_n S.1 S.2.1 dX9_records_66 rfl (lv_at hl 1 rfl) ?_
    refine lv_dup S.1 S.2.1 dX9_records_67 rfl ?_
    refine s_get S hX G (i := 161) (kd := 9) (a := mx) (v := .int (mx 2)) (C := RX9) (T := TX9) (N := 13) 2 (rfl : sh 161 = 9) ((up_ne (by decide)).trans e_mx) rfl rfl (by decide) rfl (fun _ h => (List.mem_cons_of_mem _ (List.mem_append_right _ h))) (by decide) (List.mem_of_getElem? (i := 1) rfl) (fun _ h => h) dX9_records_68 ?_
    refine s_conv (y := (nI 4)) hx ?_
    refine lv_iconst (v := (1 : Int32)) S.1 S.2.1 dX9_records_71 (by decide) ?_
    refine s_isub (v := (nI 3)) S dX9_records_72 (pk_sub (a := 4) (b := 1) (by decide)) ?_
    refine s_put S hX G (i := 161) (kd := 9) (a := mx) (a' := (upd mx 2 (nI 3))) (I' := (up (up I 163 (va_cpy wa wa 270 0 810)) 161 (upd mx 2 (nI 3)))) (v := .int (nI 3)) (ty := .int) (ty0 := tyX9) (C := RX9) (T := TX9) (N := 13) 2 (rfl : sh 161 = 9) ((up_ne (by decide)).trans e_mx) rfl rfl rfl (by decide) rfl (fun _ h => (List.mem_cons_of_mem _ (List.mem_append_right _ h))) tyX9_ok nmX9 (by decide) (List.mem_of_getElem? (i := 1) rfl) (fun _ h => h) rfl (by decide +kernel) rfl rfl (Nat.le_of_ble_eq_true rfl) dX9_records_73 (fun H locs G => ?_)
    refine lv_iconst (v := (0 : Int32)) S.1 S.2.1 dX9_records_76 (by decide) ?_
    refine lv_istore_n (lv' := [(1, .int (0 : Int32)), (0, .ref (E.2.2.2 161))]) S.1 S.2.1 dX9_records_77 rfl hl (by decide) rfl (fun ls hl => ?_)
    refine s_loop (α := Nat) (nL := 2) (E := E) (fun nn x I' L' => nn = 270 - x ∧ x ≤ 270 ∧ I' = (up (up I 161 (upd mx 2 (nI 3))) 163 (va_cpy d (va_cpy wa wa 270 0 810) 0 810 x)) ∧ L' = (upL L 164 (vp_updL (vp_updL (vp_updL lz 0 (lz 1)) 1 (lz 2)) 2 (lz 3)))) (fun x => [(1, .int (nI x)), (0, .ref (E.2.2.2 161))]) 78 (fun x => []) (fun nn ih_3 x I1 L1 H locs ls hP G hl => ?_) _ 0 ⟨rfl, (Nat.zero_le _), (Eq.trans (up_swap (i := 163) (j := 161) (by decide)) (congrArg (up (up I 161 (upd mx 2 (nI 3))) 163) cp_0.symm)), rfl⟩ G (lv_sub hl [0, 1] rfl)
    obtain ⟨k, rfl⟩ : ∃ z, z = x := ⟨x, rfl⟩
    obtain ⟨hn, hk, hIc, hLc⟩ := hP
    have hn : nn = 270 - k := hn
    obtain ⟨I_b, rfl⟩ : ∃ z, z = I1 := ⟨I1, rfl⟩
    obtain ⟨L_b, rfl⟩ : ∃ z, z = L1 := ⟨L1, rfl⟩
    have hk : k ≤ 270 := hk
    have hIc : I_b = (up (up I 161 (upd mx 2 (nI 3))) 163 (va_cpy d (va_cpy wa wa 270 0 810) 0 810 k)) := hIc
    have hLc : L_b = (upL L 164 (vp_updL (vp_updL (vp_updL lz 0 (lz 1)) 1 (lz 2)) 2 (lz 3))) := hLc
    have hl : lv_has ls 2 [(1, .int (nI k)), (0, .ref (E.2.2.2 161))] := hl
    refine W.eq (g2 := F0 mg 78 ls []) rfl ?_
    have G : GS E (up (up I 161 (upd mx 2 (nI 3))) 163 (va_cpy d (va_cpy wa wa 270 0 810) 0 810 k)) (upL L 164 (vp_updL (vp_updL (vp_updL lz 0 (lz 1)) 1 (lz 2)) 2 (lz 3))) sg H locs := G.same hIc hLc
    rcases Nat.lt_or_ge k 270 with hlt | hge
    · have hlt : k < 270 := hlt
      refine lv_iload_n S.1 S.2.1 dX9_records_78 rfl (lv_at hl 0 rfl) ?_
      refine lv_sipush (v := (270 : Int32)) S.1 S.2.1 dX9_records_79 (by decide) ?_
      refine lv_icmp_ge (tgt := 112) S.1 S.2.1 dX9_records_82 (by decide) (fun h => absurd h (nI_ge (b := 270) hlt (by decide))) (fun _ => ?_)
      refine lv_aload_n S.1 S.2.1 dX9_records_85 rfl (lv_at hl 1 rfl) ?_
      refine s_get S hX G (i := 161) (kd := 9) (a := (upd mx 2 (nI 3))) (v := .ref (E.2.2.2 163)) (C := RX9) (T := TX9) (N := 13) 1 (rfl : sh 161 = 9) ((up_ne (by decide)).trans up_eq) rfl rfl (by decide) rfl (fun _ h => (List.mem_cons_of_mem _ (List.mem_append_right _ h))) (by decide) (List.mem_of_getElem? (i := 2) rfl) (fun _ h => h) dX9_records_86 ?_
      refine lv_sipush (v := (270 : Int32)) S.1 S.2.1 dX9_records_89 (by decide) ?_
      refine lv_aload_n S.1 S.2.1 dX9_records_92 rfl (lv_at hl 1 rfl) ?_
      refine s_get S hX G (i := 161) (kd := 9) (a := (upd mx 2 (nI 3))) (v := .int (nI 3)) (C := RX9) (T := TX9) (N := 13) 2 (rfl : sh 161 = 9) ((up_ne (by decide)).trans up_eq) rfl rfl (by decide) rfl (fun _ h => (List.mem_cons_of_mem _ (List.mem_append_right _ h))) (by decide) (List.mem_of_getElem? (i := 1) rfl) (fun _ h => h) dX9_records_93 ?_
      refine s_imul (v := (nI (270 * 3))) S dX9_records_96 (pk_mul 270 3) ?_
      refine lv_iload_n S.1 S.2.1 dX9_records_97 rfl (lv_at hl 0 rfl) ?_
      refine s_iadd (v := (nI ((270 * 3) + k))) S dX9_records_98 (nI_add (270 * 3) k) ?_
      refine lv_aload_n S.1 S.2.1 dX9_records_99 rfl (lv_at hl 1 rfl) ?_
      refine s_get S hX G (i := 161) (kd := 9) (a := (upd mx 2 (nI 3))) (v := .ref (E.2.2.2 162)) (C := RX9) (T := TX9) (N := 13) 0 (rfl : sh 161 = 9) ((up_ne (by decide)).trans up_eq) rfl rfl (by decide) rfl (fun _ h => (List.mem_cons_of_mem _ (List.mem_append_right _ h))) (by decide) (List.mem_of_getElem? (i := 4) rfl) (fun _ h => h) dX9_records_100 ?_
      refine lv_iload_n S.1 S.2.1 dX9_records_103 rfl (lv_at hl 0 rfl) ?_
      refine s_iald S hX G (i := 162) (kd := 284) (n := 270) (a := d) (x := (d k)) (rfl : sh 162 = 284) ((up_ne (by decide)).trans ((up_ne (by decide)).trans e_d)) rfl (by decide) (vp_in_nI (by omega) (by decide)) (congrArg d (nI_clamp (by omega))) dX9_records_104 ?_
      refine lv_topi (fun y_4 ey_4 => ?_)
      refine s_iast S hX G (i := 163) (kd := 1094) (n := 1080) (jn := ((270 * 3) + k)) (a := (va_cpy d (va_cpy wa wa 270 0 810) 0 810 k)) (I' := (up (up I 161 (upd mx 2 (nI 3))) 163 (upd (va_cpy d (va_cpy wa wa 270 0 810) 0 810 k) ((270 * 3) + k) y_4))) (rfl : sh 163 = 1094) up_eq (fun _ => rfl) (by decide) (vp_in_nI (by omega) (by decide)) (nI_clamp (by omega)) (by rw [up_up]) dX9_records_105 (fun H locs G => ?_)
      refine lv_iinc (v := (nI (k + 1))) (lv' := [(1, .int (nI (k + 1))), (0, .ref (E.2.2.2 161))]) S.1 S.2.1 dX9_records_106 hl (k := 0) rfl (nI_1 k) (by decide) rfl (fun ls hl => ?_)
      refine lv_goto (tgt := 78) S.1 S.2.1 dX9_records_109 (by decide) ?_
      exact ih_3 _ (show 270 - (k + 1) < nn by omega) (k + 1) _ _ _ _ _ ⟨rfl, (by omega), (by subst ey_4; exact congrArg (up (up I 161 (upd mx 2 (nI 3))) 163) cp_s0), rfl⟩ G (lv_sub hl [0, 1] rfl)
    · have hkn : k = 270 := by omega
      subst hkn
      refine lv_iload_n S.1 S.2.1 dX9_records_78 rfl (lv_at hl 0 rfl) ?_
      refine lv_sipush (v := (270 : Int32)) S.1 S.2.1 dX9_records_79 (by decide) ?_
      refine lv_icmp_ge (tgt := 112) S.1 S.2.1 dX9_records_82 (by decide) (fun _ => ?_) (fun h => absurd (nI_le (a := 270) (b := 270) (by decide) (by decide)) h)
      refine lv_aload_n S.1 S.2.1 dX9_records_112 rfl (lv_at hl 1 rfl) ?_
      refine s_get S hX G (i := 161) (kd := 9) (a := (upd mx 2 (nI 3))) (v := .ref (E.2.2.2 164)) (C := RX9) (T := TX9) (N := 13) 4 (rfl : sh 161 = 9) ((up_ne (by decide)).trans up_eq) rfl rfl (by decide) rfl (fun _ h => (List.mem_cons_of_mem _ (List.mem_append_right _ h))) (by decide) (List.mem_of_getElem? (i := 3) rfl) (fun _ h => h) dX9_records_113 ?_
      refine lv_aload_n S.1 S.2.1 dX9_records_116 rfl (lv_at hl 1 rfl) ?_
      refine s_get S hX G (i := 161) (kd := 9) (a := (upd mx 2 (nI 3))) (v := .int (nI 3)) (C := RX9) (T := TX9) (N := 13) 2 (rfl : sh 161 = 9) ((up_ne (by decide)).trans up_eq) rfl rfl (by decide) rfl (fun _ h => (List.mem_cons_of_mem _ (List.mem_append_right _ h))) (by decide) (List.mem_of_getElem? (i := 1) rfl) (fun _ h => h) dX9_records_117 ?_
      refine lv_aload_n S.1 S.2.1 dX9_records_120 rfl (lv_at hl 1 rfl) ?_
      refine s_getl S hX G (i := 161) (kd := 9) (b := lx) (v := .long (lx 3)) (C := RX9) (T := TX9) (N := 13) 3 (rfl : sh 161 = 9) ((upL_ne (by decide)).trans e_lx) rfl rfl (by decide) rfl (fun _ h => (List.mem_cons_of_mem _ (List.mem_append_right _ h))) (by decide) (List.mem_of_getElem? (i := 5) rfl) (fun _ h => h) dX9_records_121 ?_
      refine s_last S hX G (i := 164) (jn := 3) (b := (vp_updL (vp_updL (vp_updL lz 0 (lz 1)) 1 (lz 2)) 2 (lz 3))) (L' := (upL L 164 (vp_updL (vp_updL (vp_updL (vp_updL lz 0 (lz 1)) 1 (lz 2)) 2 (lz 3)) 3 (lx 3)))) (rfl : sh 164 = 12) upL_eq (vp_in_nI (by omega) (by decide)) (nI_clamp (by omega)) (by rw [upL_upL]) dX9_records_124 (fun H locs G => ?_)
      refine lv_aload_n S.1 S.2.1 dX9_records_125 rfl (lv_at hl 1 rfl) ?_
      refine lv_dup S.1 S.2.1 dX9_records_126 rfl ?_
      refine s_get S hX G (i := 161) (kd := 9) (a := (upd mx 2 (nI 3))) (v := .int (nI 3)) (C := RX9) (T := TX9) (N := 13) 2 (rfl : sh 161 = 9) ((up_ne (by decide)).trans up_eq) rfl rfl (by decide) rfl (fun _ h => (List.mem_cons_of_mem _ (List.mem_append_right _ h))) (by decide) (List.mem_of_getElem? (i := 1) rfl) (fun _ h => h) dX9_records_127 ?_
      refine lv_iconst (v := (1 : Int32)) S.1 S.2.1 dX9_records_130 (by decide) ?_
      refine s_iadd (v := (nI (3 + 1))) S dX9_records_131 (nI_add 3 1) ?_
      refine s_put S hX G (i := 161) (kd := 9) (a := (upd mx 2 (nI 3))) (a' := (upd (upd mx 2 (nI 3)) 2 (nI (3 + 1)))) (I' := (up (up I 163 (va_cpy d (va_cpy wa wa 270 0 810) 0 810 270)) 161 (upd (upd mx 2 (nI 3)) 2 (nI (3 + 1))))) (v := .int (nI (3 + 1))) (ty := .int) (ty0 := tyX9) (C := RX9) (T := TX9) (N := 13) 2 (rfl : sh 161 = 9) ((up_ne (by decide)).trans up_eq) rfl rfl (by rw [up_swap (i := 161) (j := 163) (by decide), up_up]) (by decide) rfl (fun _ h => (List.mem_cons_of_mem _ (List.mem_append_right _ h))) tyX9_ok nmX9 (by decide) (List.mem_of_getElem? (i := 1) rfl) (fun _ h => h) rfl (by decide +kernel) rfl rfl (Nat.le_of_ble_eq_true rfl) dX9_records_132 (fun H locs G => ?_)
      refine s_vret S G hr hlk dX9_records_135 ?_
      exact ⟨rfl, (st_eq2 (Eq.trans up_eq (show (upd (upd mx 2 (nI 3)) 2 (nI (3 + 1))) = (upd mx 2 (nI 4)) by first | rfl | exact upd_upd2)) (Eq.trans ((up_ne (by decide)).trans up_eq) (show (va_cpy d (va_cpy wa wa 270 0 810) 0 810 270) = (recA d wa) by first | rfl | exact upd_upd2)) (fun _ g0 g1 => ((up_ne g0).trans (up_ne g1)))), (lt_eq1 (Eq.trans upL_eq (show (vp_updL (vp_updL (vp_updL (vp_updL lz 0 (lz 1)) 1 (lz 2)) 2 (lz 3)) 3 (lx 3)) = (recSA lz (lx 3)) by first | rfl | exact upd_upd2)) (fun _ g0 => (upL_ne g0)))⟩
set_option maxHeartbeats 4000000 in
set_option maxRecDepth 100000 in
theorem k_X9_records_lt (l : Launch) (E : Ev) {I : SI} {L : SL} (mx : Nat → Int32) (d : Nat → Int32) (wa : Nat → Int32) (lx : Nat → Int64) (lz : Nat → Int64) (kp : Nat) (e_mx : I (161) = mx) (e_d : I (162) = d) (e_wa : I (163) = wa) (e_lx : L (161) = lx) (e_lz : L (164) = lz) (hx : mx 2 = nI kp) (hkp : kp < 4) : CS l yX9_records wsX9_records ({ frames := 0, cells := 0, slots := 0, locals := 0 }) E [.ref (E.2.2.2 161)] I L (fun vv I' L' => vv = none ∧ I' = (up (up I (161) (upd mx 2 (nI (kp + 1)))) (163) (va_cpy d wa 0 (270 * kp) 270)) ∧ L' = (upL L (164) (vp_updL lz kp (lx 3)))) := by
  refine CS.of (cc := cX9_records) (maxL := 2) (ret := none) (by decide) rfl (Nat.le_of_ble_eq_true rfl) ?_
  intro pg en sg mg below meth cg ls S hr hlk hX G hl
  have S : CallFix pg mg cg cX9_records 2 sg _ wsX9_records RX9 := S
  have hl : lv_has ls 2 [(0, .ref (E.2.2.2 161))] := hl
  refine lv_aload_n S.1 S.2.1 dX9_records_0 rfl (lv_at hl 0 rfl) ?_
  refine s_get S hX G (i := 161) (kd := 9) (a := mx) (v := .int (mx 2)) (C := RX9) (T := TX9) (N := 13) 2 (rfl : sh 161 = 9) e_mx rfl rfl (by decide) rfl (fun _ h => (List.mem_cons_of_mem _ (List.mem_append_right _ h))) (by decide) (List.mem_of_getElem? (i := 1) rfl) (fun _ h => h) dX9_records_1 ?_
  refine s_conv (y := (nI kp)) hx ?_
  refine lv_iconst (v := (4 : Int32)) S.1 S.2.1 dX9_records_4 (by decide) ?_
  refine lv_icmp_ne (tgt := 76) S.1 S.2.1 dX9_records_5 (by decide) (fun _ => ?_) (fun h => absurd h (nI_ne (b := 4) (by omega) (by decide) (by omega)))
  refine lv_iconst (v := (0 : Int32)) S.1 S.2.1 dX9_records_76 (by decide) ?_
  refine lv_istore_n (lv' := [(1, .int (0 : Int32)), (0, .ref (E.2.2.2 161))]) S.1 S.2.1 dX9_records_77 rfl hl (by decide) rfl (fun ls hl => ?_)
  refine s_loop (α := Nat) (nL := 2) (E := E) (fun nn x I' L' => nn = 270 - x ∧ x ≤ 270 ∧ I' = (up I 163 (va_cpy d wa 0 (270 * kp) x)) ∧ L' = L) (fun x => [(1, .int (nI x)), (0, .ref (E.2.2.2 161))]) 78 (fun x => []) (fun nn ih_1 x I1 L1 H locs ls hP G hl => ?_) _ 0 ⟨rfl, (Nat.zero_le _), (up_same (Eq.trans e_wa cp_0.symm)), rfl⟩ G (lv_sub hl [0, 1] rfl)
  obtain ⟨k, rfl⟩ : ∃ z, z = x := ⟨x, rfl⟩
  obtain ⟨hn, hk, hIc, hLc⟩ := hP
  have hn : nn = 270 - k := hn
  obtain ⟨I_b, rfl⟩ : ∃ z, z = I1 := ⟨I1, rfl⟩
  obtain ⟨L_b, rfl⟩ : ∃ z, z = L1 := ⟨L1, rfl⟩
  have hk : k ≤ 270 := hk
  have hIc : I_b = (up I 163 (va_cpy d wa 0 (270 * kp) k)) := hIc
  have hLc : L_b = L := hLc
  have hl : lv_has ls 2 [(1, .int (nI k)), (0, .ref (E.2.2.2 161))] := hl
  refine W.eq (g2 := F0 mg 78 ls []) rfl ?_
  have G : GS E (up I 163 (va_cpy d wa 0 (270 * kp) k)) L sg H locs := G.same hIc hLc
  rcases Nat.lt_or_ge k 270 with hlt | hge
  · have hlt : k < 270 := hlt
    refine lv_iload_n S.1 S.2.1 dX9_records_78 rfl (lv_at hl 0 rfl) ?_
    refine lv_sipush (v := (270 : Int32)) S.1 S.2.1 dX9_records_79 (by decide) ?_
    refine lv_icmp_ge (tgt := 112) S.1 S.2.1 dX9_records_82 (by decide) (fun h => absurd h (nI_ge (b := 270) hlt (by decide))) (fun _ => ?_)
    refine lv_aload_n S.1 S.2.1 dX9_records_85 rfl (lv_at hl 1 rfl) ?_
    refine s_get S hX G (i := 161) (kd := 9) (a := mx) (v := .ref (E.2.2.2 163)) (C := RX9) (T := TX9) (N := 13) 1 (rfl : sh 161 = 9) ((up_ne (by decide)).trans e_mx) rfl rfl (by decide) rfl (fun _ h => (List.mem_cons_of_mem _ (List.mem_append_right _ h))) (by decide) (List.mem_of_getElem? (i := 2) rfl) (fun _ h => h) dX9_records_86 ?_
    refine lv_sipush (v := (270 : Int32)) S.1 S.2.1 dX9_records_89 (by decide) ?_
    refine lv_aload_n S.1 S.2.1 dX9_records_92 rfl (lv_at hl 1 rfl) ?_
    refine s_get S hX G (i := 161) (kd := 9) (a := mx) (v := .int (mx 2)) (C := RX9) (T := TX9) (N := 13) 2 (rfl : sh 161 = 9) ((up_ne (by decide)).trans e_mx) rfl rfl (by decide) rfl (fun _ h => (List.mem_cons_of_mem _ (List.mem_append_right _ h))) (by decide) (List.mem_of_getElem? (i := 1) rfl) (fun _ h => h) dX9_records_93 ?_
    refine s_conv (y := (nI kp)) hx ?_
    refine s_imul (v := (nI (270 * kp))) S dX9_records_96 (pk_mul 270 kp) ?_
    refine lv_iload_n S.1 S.2.1 dX9_records_97 rfl (lv_at hl 0 rfl) ?_
    refine s_iadd (v := (nI ((270 * kp) + k))) S dX9_records_98 (nI_add (270 * kp) k) ?_
    refine lv_aload_n S.1 S.2.1 dX9_records_99 rfl (lv_at hl 1 rfl) ?_
    refine s_get S hX G (i := 161) (kd := 9) (a := mx) (v := .ref (E.2.2.2 162)) (C := RX9) (T := TX9) (N := 13) 0 (rfl : sh 161 = 9) ((up_ne (by decide)).trans e_mx) rfl rfl (by decide) rfl (fun _ h => (List.mem_cons_of_mem _ (List.mem_append_right _ h))) (by decide) (List.mem_of_getElem? (i := 4) rfl) (fun _ h => h) dX9_records_100 ?_
    refine lv_iload_n S.1 S.2.1 dX9_records_103 rfl (lv_at hl 0 rfl) ?_
    refine s_iald S hX G (i := 162) (kd := 284) (n := 270) (a := d) (x := (d k)) (rfl : sh 162 = 284) ((up_ne (by decide)).trans e_d) rfl (by decide) (vp_in_nI (by omega) (by decide)) (congrArg d (nI_clamp (by omega))) dX9_records_104 ?_
    refine lv_topi (fun y_2 ey_2 => ?_)
    refine s_iast S hX G (i := 163) (kd := 1094) (n := 1080) (jn := ((270 * kp) + k)) (a := (va_cpy d wa 0 (270 * kp) k)) (I' := (up I 163 (upd (va_cpy d wa 0 (270 * kp) k) ((270 * kp) + k) y_2))) (rfl : sh 163 = 1094) up_eq (fun _ => rfl) (by decide) (vp_in_nI (by omega) (by decide)) (nI_clamp (by omega)) (by rw [up_up]) dX9_records_105 (fun H locs G => ?_)
    refine lv_iinc (v := (nI (k + 1))) (lv' := [(1, .int (nI (k + 1))), (0, .ref (E.2.2.2 161))]) S.1 S.2.1 dX9_records_106 hl (k := 0) rfl (nI_1 k) (by decide) rfl (fun ls hl => ?_)
    refine lv_goto (tgt := 78) S.1 S.2.1 dX9_records_109 (by decide) ?_
    exact ih_1 _ (show 270 - (k + 1) < nn by omega) (k + 1) _ _ _ _ _ ⟨rfl, (by omega), (by subst ey_2; exact congrArg (up I 163) cp_s0), rfl⟩ G (lv_sub hl [0, 1] rfl)
  · have hkn : k = 270 := by omega
    subst hkn
    refine lv_iload_n S.1 S.2.1 dX9_records_78 rfl (lv_at hl 0 rfl) ?_
    refine lv_sipush (v := (270 : Int32)) S.1 S.2.1 dX9_records_79 (by decide) ?_
    refine lv_icmp_ge (tgt := 112) S.1 S.2.1 dX9_records_82 (by decide) (fun _ => ?_) (fun h => absurd (nI_le (a := 270) (b := 270) (by decide) (by decide)) h)
    refine lv_aload_n S.1 S.2.1 dX9_records_112 rfl (lv_at hl 1 rfl) ?_
    refine s_get S hX G (i := 161) (kd := 9) (a := mx) (v := .ref (E.2.2.2 164)) (C := RX9) (T := TX9) (N := 13) 4 (rfl : sh 161 = 9) ((up_ne (by decide)).trans e_mx) rfl rfl (by decide) rfl (fun _ h => (List.mem_cons_of_mem _ (List.mem_append_right _ h))) (by decide) (List.mem_of_getElem? (i := 3) rfl) (fun _ h => h) dX9_records_113 ?_
    refine lv_aload_n S.1 S.2.1 dX9_records_116 rfl (lv_at hl 1 rfl) ?_
    refine s_get S hX G (i := 161) (kd := 9) (a := mx) (v := .int (mx 2)) (C := RX9) (T := TX9) (N := 13) 2 (rfl : sh 161 = 9) ((up_ne (by decide)).trans e_mx) rfl rfl (by decide) rfl (fun _ h => (List.mem_cons_of_mem _ (List.mem_append_right _ h))) (by decide) (List.mem_of_getElem? (i := 1) rfl) (fun _ h => h) dX9_records_117 ?_
    refine s_conv (y := (nI kp)) hx ?_
    refine lv_aload_n S.1 S.2.1 dX9_records_120 rfl (lv_at hl 1 rfl) ?_
    refine s_getl S hX G (i := 161) (kd := 9) (b := lx) (v := .long (lx 3)) (C := RX9) (T := TX9) (N := 13) 3 (rfl : sh 161 = 9) e_lx rfl rfl (by decide) rfl (fun _ h => (List.mem_cons_of_mem _ (List.mem_append_right _ h))) (by decide) (List.mem_of_getElem? (i := 5) rfl) (fun _ h => h) dX9_records_121 ?_
    refine s_last S hX G (i := 164) (jn := kp) (b := lz) (L' := (upL L 164 (vp_updL lz kp (lx 3)))) (rfl : sh 164 = 12) e_lz (vp_in_nI (by omega) (by decide)) (nI_clamp (by omega)) rfl dX9_records_124 (fun H locs G => ?_)
    refine lv_aload_n S.1 S.2.1 dX9_records_125 rfl (lv_at hl 1 rfl) ?_
    refine lv_dup S.1 S.2.1 dX9_records_126 rfl ?_
    refine s_get S hX G (i := 161) (kd := 9) (a := mx) (v := .int (mx 2)) (C := RX9) (T := TX9) (N := 13) 2 (rfl : sh 161 = 9) ((up_ne (by decide)).trans e_mx) rfl rfl (by decide) rfl (fun _ h => (List.mem_cons_of_mem _ (List.mem_append_right _ h))) (by decide) (List.mem_of_getElem? (i := 1) rfl) (fun _ h => h) dX9_records_127 ?_
    refine s_conv (y := (nI kp)) hx ?_
    refine lv_iconst (v := (1 : Int32)) S.1 S.2.1 dX9_records_130 (by decide) ?_
    refine s_iadd (v := (nI (kp + 1))) S dX9_records_131 (nI_add kp 1) ?_
    refine s_put S hX G (i := 161) (kd := 9) (a := mx) (a' := (upd mx 2 (nI (kp + 1)))) (I' := (up (up I 163 (va_cpy d wa 0 (270 * kp) 270)) 161 (upd mx 2 (nI (kp + 1))))) (v := .int (nI (kp + 1))) (ty := .int) (ty0 := tyX9) (C := RX9) (T := TX9) (N := 13) 2 (rfl : sh 161 = 9) ((up_ne (by decide)).trans e_mx) rfl rfl rfl (by decide) rfl (fun _ h => (List.mem_cons_of_mem _ (List.mem_append_right _ h))) tyX9_ok nmX9 (by decide) (List.mem_of_getElem? (i := 1) rfl) (fun _ h => h) rfl (by decide +kernel) rfl rfl (Nat.le_of_ble_eq_true rfl) dX9_records_132 (fun H locs G => ?_)
    refine s_vret S G hr hlk dX9_records_135 ?_
    exact ⟨rfl, (st_eq2 up_eq ((up_ne (by decide)).trans up_eq) (fun _ g0 g1 => ((up_ne g0).trans (up_ne g1)))), (lt_eq1 upL_eq (fun _ g0 => (upL_ne g0)))⟩
set_option maxHeartbeats 4000000 in
set_option maxRecDepth 100000 in
theorem k_X9_undo_ok (l : Launch) (E : Ev) {I : SI} {L : SL} (mx : Nat → Int32) (d : Nat → Int32) (wa : Nat → Int32) (lx : Nat → Int64) (lz : Nat → Int64) (kq : Nat) (e_mx : I (161) = mx) (e_d : I (162) = d) (e_wa : I (163) = wa) (e_lx : L (161) = lx) (e_lz : L (164) = lz) (hx : mx 2 = nI (kq + 1)) (hkq : kq < 4) : CS l yX9_undo wsX9_undo ({ frames := 0, cells := 0, slots := 0, locals := 0 }) E [.ref (E.2.2.2 161)] I L (fun vv I' L' => vv = some (.int (nI kq)) ∧ I' = (up (up I (161) (upd mx 2 (nI kq))) (162) (va_cpy wa d (270 * kq) 0 270)) ∧ L' = (upL L (161) (vp_updL lx 3 (lz kq)))) := by
  refine CS.of (cc := cX9_undo) (maxL := 2) (ret := (some .int)) (by decide) rfl (Nat.le_of_ble_eq_true rfl) ?_
  intro pg en sg mg below meth cg ls S hr hlk hX G hl
  have S : CallFix pg mg cg cX9_undo 2 sg _ wsX9_undo RX9 := S
  have hl : lv_has ls 2 [(0, .ref (E.2.2.2 161))] := hl
  refine lv_aload_n S.1 S.2.1 dX9_undo_0 rfl (lv_at hl 0 rfl) ?_
  refine s_get S hX G (i := 161) (kd := 9) (a := mx) (v := .int (mx 2)) (C := RX9) (T := TX9) (N := 13) 2 (rfl : sh 161 = 9) e_mx rfl rfl (by decide) rfl (fun _ h => (List.mem_cons_of_mem _ (List.mem_append_right _ h))) (by decide) (List.mem_of_getElem? (i := 1) rfl) (fun _ h => h) dX9_undo_1 ?_
  refine s_conv (y := (nI (kq + 1))) hx ?_
  refine lv_if_ne (tgt := 10) S.1 S.2.1 dX9_undo_4 (by decide) (fun _ => ?_) (fun h => absurd h (nI_s0 (by omega)))
  refine lv_aload_n S.1 S.2.1 dX9_undo_10 rfl (lv_at hl 0 rfl) ?_
  refine lv_dup S.1 S.2.1 dX9_undo_11 rfl ?_
  refine s_get S hX G (i := 161) (kd := 9) (a := mx) (v := .int (mx 2)) (C := RX9) (T := TX9) (N := 13) 2 (rfl : sh 161 = 9) e_mx rfl rfl (by decide) rfl (fun _ h => (List.mem_cons_of_mem _ (List.mem_append_right _ h))) (by decide) (List.mem_of_getElem? (i := 1) rfl) (fun _ h => h) dX9_undo_12 ?_
  refine s_conv (y := (nI (kq + 1))) hx ?_
  refine lv_iconst (v := (1 : Int32)) S.1 S.2.1 dX9_undo_15 (by decide) ?_
  refine s_isub (v := (nI kq)) S dX9_undo_16 (pk_sub (a := kq + 1) (b := 1) (by omega)) ?_
  refine s_put S hX G (i := 161) (kd := 9) (a := mx) (a' := (upd mx 2 (nI kq))) (I' := (up I 161 (upd mx 2 (nI kq)))) (v := .int (nI kq)) (ty := .int) (ty0 := tyX9) (C := RX9) (T := TX9) (N := 13) 2 (rfl : sh 161 = 9) e_mx rfl rfl rfl (by decide) rfl (fun _ h => (List.mem_cons_of_mem _ (List.mem_append_right _ h))) tyX9_ok nmX9 (by decide) (List.mem_of_getElem? (i := 1) rfl) (fun _ h => h) rfl (by decide +kernel) rfl rfl (Nat.le_of_ble_eq_true rfl) dX9_undo_17 (fun H locs G => ?_)
  refine lv_iconst (v := (0 : Int32)) S.1 S.2.1 dX9_undo_20 (by decide) ?_
  refine lv_istore_n (lv' := [(1, .int (0 : Int32)), (0, .ref (E.2.2.2 161))]) S.1 S.2.1 dX9_undo_21 rfl hl (by decide) rfl (fun ls hl => ?_)
  refine s_loop (α := Nat) (nL := 2) (E := E) (fun nn x I' L' => nn = 270 - x ∧ x ≤ 270 ∧ I' = (up (up I 161 (upd mx 2 (nI kq))) 162 (va_cpy wa d (270 * kq) 0 x)) ∧ L' = L) (fun x => [(1, .int (nI x)), (0, .ref (E.2.2.2 161))]) 22 (fun x => []) (fun nn ih_1 x I1 L1 H locs ls hP G hl => ?_) _ 0 ⟨rfl, (Nat.zero_le _), (up_same (Eq.trans ((up_ne (by decide)).trans e_d) cp_0.symm)), rfl⟩ G (lv_sub hl [0, 1] rfl)
  obtain ⟨k, rfl⟩ : ∃ z, z = x := ⟨x, rfl⟩
  obtain ⟨hn, hk, hIc, hLc⟩ := hP
  have hn : nn = 270 - k := hn
  obtain ⟨I_b, rfl⟩ : ∃ z, z = I1 := ⟨I1, rfl⟩
  obtain ⟨L_b, rfl⟩ : ∃ z, z = L1 := ⟨L1, rfl⟩
  have hk : k ≤ 270 := hk
  have hIc : I_b = (up (up I 161 (upd mx 2 (nI kq))) 162 (va_cpy wa d (270 * kq) 0 k)) := hIc
  have hLc : L_b = L := hLc
  have hl : lv_has ls 2 [(1, .int (nI k)), (0, .ref (E.2.2.2 161))] := hl
  refine W.eq (g2 := F0 mg 22 ls []) rfl ?_
  have G : GS E (up (up I 161 (upd mx 2 (nI kq))) 162 (va_cpy wa d (270 * kq) 0 k)) L sg H locs := G.same hIc hLc
  rcases Nat.lt_or_ge k 270 with hlt | hge
  · have hlt : k < 270 := hlt
    refine lv_iload_n S.1 S.2.1 dX9_undo_22 rfl (lv_at hl 0 rfl) ?_
    refine lv_sipush (v := (270 : Int32)) S.1 S.2.1 dX9_undo_23 (by decide) ?_
    refine lv_icmp_ge (tgt := 56) S.1 S.2.1 dX9_undo_26 (by decide) (fun h => absurd h (nI_ge (b := 270) hlt (by decide))) (fun _ => ?_)
    refine lv_aload_n S.1 S.2.1 dX9_undo_29 rfl (lv_at hl 1 rfl) ?_
    refine s_get S hX G (i := 161) (kd := 9) (a := (upd mx 2 (nI kq))) (v := .ref (E.2.2.2 162)) (C := RX9) (T := TX9) (N := 13) 0 (rfl : sh 161 = 9) ((up_ne (by decide)).trans up_eq) rfl rfl (by decide) rfl (fun _ h => (List.mem_cons_of_mem _ (List.mem_append_right _ h))) (by decide) (List.mem_of_getElem? (i := 3) rfl) (fun _ h => h) dX9_undo_30 ?_
    refine lv_iload_n S.1 S.2.1 dX9_undo_33 rfl (lv_at hl 0 rfl) ?_
    refine lv_aload_n S.1 S.2.1 dX9_undo_34 rfl (lv_at hl 1 rfl) ?_
    refine s_get S hX G (i := 161) (kd := 9) (a := (upd mx 2 (nI kq))) (v := .ref (E.2.2.2 163)) (C := RX9) (T := TX9) (N := 13) 1 (rfl : sh 161 = 9) ((up_ne (by decide)).trans up_eq) rfl rfl (by decide) rfl (fun _ h => (List.mem_cons_of_mem _ (List.mem_append_right _ h))) (by decide) (List.mem_of_getElem? (i := 4) rfl) (fun _ h => h) dX9_undo_35 ?_
    refine lv_sipush (v := (270 : Int32)) S.1 S.2.1 dX9_undo_38 (by decide) ?_
    refine lv_aload_n S.1 S.2.1 dX9_undo_41 rfl (lv_at hl 1 rfl) ?_
    refine s_get S hX G (i := 161) (kd := 9) (a := (upd mx 2 (nI kq))) (v := .int (nI kq)) (C := RX9) (T := TX9) (N := 13) 2 (rfl : sh 161 = 9) ((up_ne (by decide)).trans up_eq) rfl rfl (by decide) rfl (fun _ h => (List.mem_cons_of_mem _ (List.mem_append_right _ h))) (by decide) (List.mem_of_getElem? (i := 1) rfl) (fun _ h => h) dX9_undo_42 ?_
    refine s_imul (v := (nI (270 * kq))) S dX9_undo_45 (pk_mul 270 kq) ?_
    refine lv_iload_n S.1 S.2.1 dX9_undo_46 rfl (lv_at hl 0 rfl) ?_
    refine s_iadd (v := (nI ((270 * kq) + k))) S dX9_undo_47 (nI_add (270 * kq) k) ?_
    refine s_iald S hX G (i := 163) (kd := 1094) (n := 1080) (a := wa) (x := (wa ((270 * kq) + k))) (rfl : sh 163 = 1094) ((up_ne (by decide)).trans ((up_ne (by decide)).trans e_wa)) rfl (by decide) (vp_in_nI (by omega) (by decide)) (congrArg wa (nI_clamp (by omega))) dX9_undo_48 ?_
    refine lv_topi (fun y_2 ey_2 => ?_)
    refine s_iast S hX G (i := 162) (kd := 284) (n := 270) (jn := k) (a := (va_cpy wa d (270 * kq) 0 k)) (I' := (up (up I 161 (upd mx 2 (nI kq))) 162 (upd (va_cpy wa d (270 * kq) 0 k) k y_2))) (rfl : sh 162 = 284) up_eq (fun _ => rfl) (by decide) (vp_in_nI (by omega) (by decide)) (nI_clamp (by omega)) (by rw [up_up]) dX9_undo_49 (fun H locs G => ?_)
    refine lv_iinc (v := (nI (k + 1))) (lv' := [(1, .int (nI (k + 1))), (0, .ref (E.2.2.2 161))]) S.1 S.2.1 dX9_undo_50 hl (k := 0) rfl (nI_1 k) (by decide) rfl (fun ls hl => ?_)
    refine lv_goto (tgt := 22) S.1 S.2.1 dX9_undo_53 (by decide) ?_
    exact ih_1 _ (show 270 - (k + 1) < nn by omega) (k + 1) _ _ _ _ _ ⟨rfl, (by omega), (by subst ey_2; exact congrArg (up (up I 161 (upd mx 2 (nI kq))) 162) cp_s1), rfl⟩ G (lv_sub hl [0, 1] rfl)
  · have hkn : k = 270 := by omega
    subst hkn
    refine lv_iload_n S.1 S.2.1 dX9_undo_22 rfl (lv_at hl 0 rfl) ?_
    refine lv_sipush (v := (270 : Int32)) S.1 S.2.1 dX9_undo_23 (by decide) ?_
    refine lv_icmp_ge (tgt := 56) S.1 S.2.1 dX9_undo_26 (by decide) (fun _ => ?_) (fun h => absurd (nI_le (a := 270) (b := 270) (by decide) (by decide)) h)
    refine lv_aload_n S.1 S.2.1 dX9_undo_56 rfl (lv_at hl 1 rfl) ?_
    refine lv_aload_n S.1 S.2.1 dX9_undo_57 rfl (lv_at hl 1 rfl) ?_
    refine s_get S hX G (i := 161) (kd := 9) (a := (upd mx 2 (nI kq))) (v := .ref (E.2.2.2 164)) (C := RX9) (T := TX9) (N := 13) 4 (rfl : sh 161 = 9) ((up_ne (by decide)).trans up_eq) rfl rfl (by decide) rfl (fun _ h => (List.mem_cons_of_mem _ (List.mem_append_right _ h))) (by decide) (List.mem_of_getElem? (i := 5) rfl) (fun _ h => h) dX9_undo_58 ?_
    refine lv_aload_n S.1 S.2.1 dX9_undo_61 rfl (lv_at hl 1 rfl) ?_
    refine s_get S hX G (i := 161) (kd := 9) (a := (upd mx 2 (nI kq))) (v := .int (nI kq)) (C := RX9) (T := TX9) (N := 13) 2 (rfl : sh 161 = 9) ((up_ne (by decide)).trans up_eq) rfl rfl (by decide) rfl (fun _ h => (List.mem_cons_of_mem _ (List.mem_append_right _ h))) (by decide) (List.mem_of_getElem? (i := 1) rfl) (fun _ h => h) dX9_undo_62 ?_
    refine s_lald S hX G (i := 164) (b := lz) (x := (lz kq)) (rfl : sh 164 = 12) e_lz (vp_in_nI (by omega) (by decide)) (congrArg lz (nI_clamp (by omega))) dX9_undo_65 ?_
    refine lv_topl (fun y_3 ey_3 => ?_)
    refine s_putl S hX G (i := 161) (kd := 9) (b := lx) (b' := (vp_updL lx 3 y_3)) (L' := (upL L 161 (vp_updL lx 3 y_3))) (v := .long y_3) (ty := .long) (ty0 := tyX9) (C := RX9) (T := TX9) (N := 13) 3 (rfl : sh 161 = 9) e_lx rfl rfl rfl (by decide) rfl (fun _ h => (List.mem_cons_of_mem _ (List.mem_append_right _ h))) tyX9_ok nmX9 (by decide) (List.mem_of_getElem? (i := 6) rfl) (fun _ h => h) rfl (by decide +kernel) rfl rfl (Nat.le_of_ble_eq_true rfl) dX9_undo_66 (fun H locs G => ?_)
    refine lv_aload_n S.1 S.2.1 dX9_undo_69 rfl (lv_at hl 1 rfl) ?_
    refine s_get S hX G (i := 161) (kd := 9) (a := (upd mx 2 (nI kq))) (v := .int (nI kq)) (C := RX9) (T := TX9) (N := 13) 2 (rfl : sh 161 = 9) ((up_ne (by decide)).trans up_eq) rfl rfl (by decide) rfl (fun _ h => (List.mem_cons_of_mem _ (List.mem_append_right _ h))) (by decide) (List.mem_of_getElem? (i := 1) rfl) (fun _ h => h) dX9_undo_70 ?_
    refine s_iret (x := (nI kq)) S G hr hlk dX9_undo_73 ?_
    exact ⟨rfl, (st_eq2 ((up_ne (by decide)).trans up_eq) up_eq (fun _ g0 g1 => ((up_ne g1).trans (up_ne g0)))), (lt_eq1 (Eq.trans upL_eq (show (vp_updL lx 3 y_3) = (vp_updL lx 3 (lz kq)) by subst ey_3; rfl)) (fun _ g0 => (upL_ne g0)))⟩
set_option maxHeartbeats 4000000 in
set_option maxRecDepth 100000 in
theorem k_X9_undo_no (l : Launch) (E : Ev) {I : SI} {L : SL} (mx : Nat → Int32) (e_mx : I (161) = mx) (hx : mx 2 = 0) : CS l yX9_undo wsX9_undo ({ frames := 0, cells := 0, slots := 0, locals := 0 }) E [.ref (E.2.2.2 161)] I L (fun vv I' L' => vv = some (.int (-2000000002 : Int32)) ∧ I' = I ∧ L' = L) := by
  refine CS.of (cc := cX9_undo) (maxL := 2) (ret := (some .int)) (by decide) rfl (Nat.le_of_ble_eq_true rfl) ?_
  intro pg en sg mg below meth cg ls S hr hlk hX G hl
  have S : CallFix pg mg cg cX9_undo 2 sg _ wsX9_undo RX9 := S
  have hl : lv_has ls 2 [(0, .ref (E.2.2.2 161))] := hl
  refine lv_aload_n S.1 S.2.1 dX9_undo_0 rfl (lv_at hl 0 rfl) ?_
  refine s_get S hX G (i := 161) (kd := 9) (a := mx) (v := .int (mx 2)) (C := RX9) (T := TX9) (N := 13) 2 (rfl : sh 161 = 9) e_mx rfl rfl (by decide) rfl (fun _ h => (List.mem_cons_of_mem _ (List.mem_append_right _ h))) (by decide) (List.mem_of_getElem? (i := 1) rfl) (fun _ h => h) dX9_undo_1 ?_
  refine lv_if_ne (tgt := 10) S.1 S.2.1 dX9_undo_4 (by decide) (fun h => absurd hx h) (fun _ => ?_)
  refine lv_ldc (v := (-2000000002 : Int32)) S.1 S.2.1 S.2.2.2.1 (S.2.2.2.2 _ (List.mem_of_getElem? (i := 2) rfl)) dX9_undo_7 ?_
  refine s_iret (x := (-2000000002 : Int32)) S G hr hlk dX9_undo_9 ?_
  exact ⟨rfl, rfl, rfl⟩
set_option maxHeartbeats 4000000 in
set_option maxRecDepth 100000 in
theorem k_X9_keeps (l : Launch) (E : Ev) {I : SI} {L : SL} (d : Nat → Int32) (az : Nat → Int32) (lx : Nat → Int64) (e_d : I (162) = d) (e_az : I (165) = az) (e_lx : L (161) = lx) : CS l yX9_keeps wsX9_keeps ({ frames := 0, cells := 0, slots := 0, locals := 0 }) E [.ref (E.2.2.2 161)] I L (fun vv I' L' => vv = none ∧ I' = (up I (165) (va_cpy d az 0 0 270)) ∧ L' = (upL L (161) (vp_updL lx 6 (lx 3)))) := by
  refine CS.of (cc := cX9_keeps) (maxL := 2) (ret := none) (by decide) rfl (Nat.le_of_ble_eq_true rfl) ?_
  intro pg en sg mg below meth cg ls S hr hlk hX G hl
  have S : CallFix pg mg cg cX9_keeps 2 sg _ wsX9_keeps RX9 := S
  have hl : lv_has ls 2 [(0, .ref (E.2.2.2 161))] := hl
  refine lv_iconst (v := (0 : Int32)) S.1 S.2.1 dX9_keeps_0 (by decide) ?_
  refine lv_istore_n (lv' := [(1, .int (0 : Int32)), (0, .ref (E.2.2.2 161))]) S.1 S.2.1 dX9_keeps_1 rfl hl (by decide) rfl (fun ls hl => ?_)
  refine s_loop (α := Nat) (nL := 2) (E := E) (fun nn x I' L' => nn = 270 - x ∧ x ≤ 270 ∧ I' = (up I 165 (va_cpy d az 0 0 x)) ∧ L' = L) (fun x => [(1, .int (nI x)), (0, .ref (E.2.2.2 161))]) 2 (fun x => []) (fun nn ih_1 x I1 L1 H locs ls hP G hl => ?_) _ 0 ⟨rfl, (Nat.zero_le _), (up_same (Eq.trans e_az cp_0.symm)), rfl⟩ G (lv_sub hl [0, 1] rfl)
  obtain ⟨k, rfl⟩ : ∃ z, z = x := ⟨x, rfl⟩
  obtain ⟨hn, hk, hIc, hLc⟩ := hP
  have hn : nn = 270 - k := hn
  obtain ⟨I_b, rfl⟩ : ∃ z, z = I1 := ⟨I1, rfl⟩
  obtain ⟨L_b, rfl⟩ : ∃ z, z = L1 := ⟨L1, rfl⟩
  have hk : k ≤ 270 := hk
  have hIc : I_b = (up I 165 (va_cpy d az 0 0 k)) := hIc
  have hLc : L_b = L := hLc
  have hl : lv_has ls 2 [(1, .int (nI k)), (0, .ref (E.2.2.2 161))] := hl
  refine W.eq (g2 := F0 mg 2 ls []) rfl ?_
  have G : GS E (up I 165 (va_cpy d az 0 0 k)) L sg H locs := G.same hIc hLc
  rcases Nat.lt_or_ge k 270 with hlt | hge
  · have hlt : k < 270 := hlt
    refine lv_iload_n S.1 S.2.1 dX9_keeps_2 rfl (lv_at hl 0 rfl) ?_
    refine lv_sipush (v := (270 : Int32)) S.1 S.2.1 dX9_keeps_3 (by decide) ?_
    refine lv_icmp_ge (tgt := 27) S.1 S.2.1 dX9_keeps_6 (by decide) (fun h => absurd h (nI_ge (b := 270) hlt (by decide))) (fun _ => ?_)
    refine lv_aload_n S.1 S.2.1 dX9_keeps_9 rfl (lv_at hl 1 rfl) ?_
    refine s_get S hX G (i := 161) (kd := 9) (a := (I 161)) (v := .ref (E.2.2.2 165)) (C := RX9) (T := TX9) (N := 13) 5 (rfl : sh 161 = 9) (up_ne (by decide)) rfl rfl (by decide) rfl (fun _ h => (List.mem_cons_of_mem _ (List.mem_append_right _ h))) (by decide) (List.mem_of_getElem? (i := 1) rfl) (fun _ h => h) dX9_keeps_10 ?_
    refine lv_iload_n S.1 S.2.1 dX9_keeps_13 rfl (lv_at hl 0 rfl) ?_
    refine lv_aload_n S.1 S.2.1 dX9_keeps_14 rfl (lv_at hl 1 rfl) ?_
    refine s_get S hX G (i := 161) (kd := 9) (a := (I 161)) (v := .ref (E.2.2.2 162)) (C := RX9) (T := TX9) (N := 13) 0 (rfl : sh 161 = 9) (up_ne (by decide)) rfl rfl (by decide) rfl (fun _ h => (List.mem_cons_of_mem _ (List.mem_append_right _ h))) (by decide) (List.mem_of_getElem? (i := 2) rfl) (fun _ h => h) dX9_keeps_15 ?_
    refine lv_iload_n S.1 S.2.1 dX9_keeps_18 rfl (lv_at hl 0 rfl) ?_
    refine s_iald S hX G (i := 162) (kd := 284) (n := 270) (a := d) (x := (d k)) (rfl : sh 162 = 284) ((up_ne (by decide)).trans e_d) rfl (by decide) (vp_in_nI (by omega) (by decide)) (congrArg d (nI_clamp (by omega))) dX9_keeps_19 ?_
    refine lv_topi (fun y_2 ey_2 => ?_)
    refine s_iast S hX G (i := 165) (kd := 284) (n := 270) (jn := k) (a := (va_cpy d az 0 0 k)) (I' := (up I 165 (upd (va_cpy d az 0 0 k) k y_2))) (rfl : sh 165 = 284) up_eq (fun _ => rfl) (by decide) (vp_in_nI (by omega) (by decide)) (nI_clamp (by omega)) (by rw [up_up]) dX9_keeps_20 (fun H locs G => ?_)
    refine lv_iinc (v := (nI (k + 1))) (lv' := [(1, .int (nI (k + 1))), (0, .ref (E.2.2.2 161))]) S.1 S.2.1 dX9_keeps_21 hl (k := 0) rfl (nI_1 k) (by decide) rfl (fun ls hl => ?_)
    refine lv_goto (tgt := 2) S.1 S.2.1 dX9_keeps_24 (by decide) ?_
    exact ih_1 _ (show 270 - (k + 1) < nn by omega) (k + 1) _ _ _ _ _ ⟨rfl, (by omega), (by subst ey_2; exact congrArg (up I 165) cp_s00), rfl⟩ G (lv_sub hl [0, 1] rfl)
  · have hkn : k = 270 := by omega
    subst hkn
    refine lv_iload_n S.1 S.2.1 dX9_keeps_2 rfl (lv_at hl 0 rfl) ?_
    refine lv_sipush (v := (270 : Int32)) S.1 S.2.1 dX9_keeps_3 (by decide) ?_
    refine lv_icmp_ge (tgt := 27) S.1 S.2.1 dX9_keeps_6 (by decide) (fun _ => ?_) (fun h => absurd (nI_le (a := 270) (b := 270) (by decide) (by decide)) h)
    refine lv_aload_n S.1 S.2.1 dX9_keeps_27 rfl (lv_at hl 1 rfl) ?_
    refine lv_aload_n S.1 S.2.1 dX9_keeps_28 rfl (lv_at hl 1 rfl) ?_
    refine s_getl S hX G (i := 161) (kd := 9) (b := lx) (v := .long (lx 3)) (C := RX9) (T := TX9) (N := 13) 3 (rfl : sh 161 = 9) e_lx rfl rfl (by decide) rfl (fun _ h => (List.mem_cons_of_mem _ (List.mem_append_right _ h))) (by decide) (List.mem_of_getElem? (i := 3) rfl) (fun _ h => h) dX9_keeps_29 ?_
    refine s_putl S hX G (i := 161) (kd := 9) (b := lx) (b' := (vp_updL lx 6 (lx 3))) (L' := (upL L 161 (vp_updL lx 6 (lx 3)))) (v := .long (lx 3)) (ty := .long) (ty0 := tyX9) (C := RX9) (T := TX9) (N := 13) 6 (rfl : sh 161 = 9) e_lx rfl rfl rfl (by decide) rfl (fun _ h => (List.mem_cons_of_mem _ (List.mem_append_right _ h))) tyX9_ok nmX9 (by decide) (List.mem_of_getElem? (i := 4) rfl) (fun _ h => h) rfl (by decide +kernel) rfl rfl (Nat.le_of_ble_eq_true rfl) dX9_keeps_32 (fun H locs G => ?_)
    refine s_vret S G hr hlk dX9_keeps_35 ?_
    exact ⟨rfl, (st_eq1 up_eq (fun _ g0 => (up_ne g0))), (lt_eq1 upL_eq (fun _ g0 => (upL_ne g0)))⟩
set_option maxHeartbeats 4000000 in
set_option maxRecDepth 100000 in
theorem k_X9_restores (l : Launch) (E : Ev) {I : SI} {L : SL} (d : Nat → Int32) (az : Nat → Int32) (lx : Nat → Int64) (e_d : I (162) = d) (e_az : I (165) = az) (e_lx : L (161) = lx) : CS l yX9_restores wsX9_restores ({ frames := 0, cells := 0, slots := 0, locals := 0 }) E [.ref (E.2.2.2 161)] I L (fun vv I' L' => vv = none ∧ I' = (up I (162) (va_cpy az d 0 0 270)) ∧ L' = (upL L (161) (vp_updL lx 3 (lx 6)))) := by
  refine CS.of (cc := cX9_restores) (maxL := 2) (ret := none) (by decide) rfl (Nat.le_of_ble_eq_true rfl) ?_
  intro pg en sg mg below meth cg ls S hr hlk hX G hl
  have S : CallFix pg mg cg cX9_restores 2 sg _ wsX9_restores RX9 := S
  have hl : lv_has ls 2 [(0, .ref (E.2.2.2 161))] := hl
  refine lv_iconst (v := (0 : Int32)) S.1 S.2.1 dX9_restores_0 (by decide) ?_
  refine lv_istore_n (lv' := [(1, .int (0 : Int32)), (0, .ref (E.2.2.2 161))]) S.1 S.2.1 dX9_restores_1 rfl hl (by decide) rfl (fun ls hl => ?_)
  refine s_loop (α := Nat) (nL := 2) (E := E) (fun nn x I' L' => nn = 270 - x ∧ x ≤ 270 ∧ I' = (up I 162 (va_cpy az d 0 0 x)) ∧ L' = L) (fun x => [(1, .int (nI x)), (0, .ref (E.2.2.2 161))]) 2 (fun x => []) (fun nn ih_1 x I1 L1 H locs ls hP G hl => ?_) _ 0 ⟨rfl, (Nat.zero_le _), (up_same (Eq.trans e_d cp_0.symm)), rfl⟩ G (lv_sub hl [0, 1] rfl)
  obtain ⟨k, rfl⟩ : ∃ z, z = x := ⟨x, rfl⟩
  obtain ⟨hn, hk, hIc, hLc⟩ := hP
  have hn : nn = 270 - k := hn
  obtain ⟨I_b, rfl⟩ : ∃ z, z = I1 := ⟨I1, rfl⟩
  obtain ⟨L_b, rfl⟩ : ∃ z, z = L1 := ⟨L1, rfl⟩
  have hk : k ≤ 270 := hk
  have hIc : I_b = (up I 162 (va_cpy az d 0 0 k)) := hIc
  have hLc : L_b = L := hLc
  have hl : lv_has ls 2 [(1, .int (nI k)), (0, .ref (E.2.2.2 161))] := hl
  refine W.eq (g2 := F0 mg 2 ls []) rfl ?_
  have G : GS E (up I 162 (va_cpy az d 0 0 k)) L sg H locs := G.same hIc hLc
  rcases Nat.lt_or_ge k 270 with hlt | hge
  · have hlt : k < 270 := hlt
    refine lv_iload_n S.1 S.2.1 dX9_restores_2 rfl (lv_at hl 0 rfl) ?_
    refine lv_sipush (v := (270 : Int32)) S.1 S.2.1 dX9_restores_3 (by decide) ?_
    refine lv_icmp_ge (tgt := 27) S.1 S.2.1 dX9_restores_6 (by decide) (fun h => absurd h (nI_ge (b := 270) hlt (by decide))) (fun _ => ?_)
    refine lv_aload_n S.1 S.2.1 dX9_restores_9 rfl (lv_at hl 1 rfl) ?_
    refine s_get S hX G (i := 161) (kd := 9) (a := (I 161)) (v := .ref (E.2.2.2 162)) (C := RX9) (T := TX9) (N := 13) 0 (rfl : sh 161 = 9) (up_ne (by decide)) rfl rfl (by decide) rfl (fun _ h => (List.mem_cons_of_mem _ (List.mem_append_right _ h))) (by decide) (List.mem_of_getElem? (i := 1) rfl) (fun _ h => h) dX9_restores_10 ?_
    refine lv_iload_n S.1 S.2.1 dX9_restores_13 rfl (lv_at hl 0 rfl) ?_
    refine lv_aload_n S.1 S.2.1 dX9_restores_14 rfl (lv_at hl 1 rfl) ?_
    refine s_get S hX G (i := 161) (kd := 9) (a := (I 161)) (v := .ref (E.2.2.2 165)) (C := RX9) (T := TX9) (N := 13) 5 (rfl : sh 161 = 9) (up_ne (by decide)) rfl rfl (by decide) rfl (fun _ h => (List.mem_cons_of_mem _ (List.mem_append_right _ h))) (by decide) (List.mem_of_getElem? (i := 2) rfl) (fun _ h => h) dX9_restores_15 ?_
    refine lv_iload_n S.1 S.2.1 dX9_restores_18 rfl (lv_at hl 0 rfl) ?_
    refine s_iald S hX G (i := 165) (kd := 284) (n := 270) (a := az) (x := (az k)) (rfl : sh 165 = 284) ((up_ne (by decide)).trans e_az) rfl (by decide) (vp_in_nI (by omega) (by decide)) (congrArg az (nI_clamp (by omega))) dX9_restores_19 ?_
    refine lv_topi (fun y_2 ey_2 => ?_)
    refine s_iast S hX G (i := 162) (kd := 284) (n := 270) (jn := k) (a := (va_cpy az d 0 0 k)) (I' := (up I 162 (upd (va_cpy az d 0 0 k) k y_2))) (rfl : sh 162 = 284) up_eq (fun _ => rfl) (by decide) (vp_in_nI (by omega) (by decide)) (nI_clamp (by omega)) (by rw [up_up]) dX9_restores_20 (fun H locs G => ?_)
    refine lv_iinc (v := (nI (k + 1))) (lv' := [(1, .int (nI (k + 1))), (0, .ref (E.2.2.2 161))]) S.1 S.2.1 dX9_restores_21 hl (k := 0) rfl (nI_1 k) (by decide) rfl (fun ls hl => ?_)
    refine lv_goto (tgt := 2) S.1 S.2.1 dX9_restores_24 (by decide) ?_
    exact ih_1 _ (show 270 - (k + 1) < nn by omega) (k + 1) _ _ _ _ _ ⟨rfl, (by omega), (by subst ey_2; exact congrArg (up I 162) cp_s00), rfl⟩ G (lv_sub hl [0, 1] rfl)
  · have hkn : k = 270 := by omega
    subst hkn
    refine lv_iload_n S.1 S.2.1 dX9_restores_2 rfl (lv_at hl 0 rfl) ?_
    refine lv_sipush (v := (270 : Int32)) S.1 S.2.1 dX9_restores_3 (by decide) ?_
    refine lv_icmp_ge (tgt := 27) S.1 S.2.1 dX9_restores_6 (by decide) (fun _ => ?_) (fun h => absurd (nI_le (a := 270) (b := 270) (by decide) (by decide)) h)
    refine lv_aload_n S.1 S.2.1 dX9_restores_27 rfl (lv_at hl 1 rfl) ?_
    refine lv_aload_n S.1 S.2.1 dX9_restores_28 rfl (lv_at hl 1 rfl) ?_
    refine s_getl S hX G (i := 161) (kd := 9) (b := lx) (v := .long (lx 6)) (C := RX9) (T := TX9) (N := 13) 6 (rfl : sh 161 = 9) e_lx rfl rfl (by decide) rfl (fun _ h => (List.mem_cons_of_mem _ (List.mem_append_right _ h))) (by decide) (List.mem_of_getElem? (i := 3) rfl) (fun _ h => h) dX9_restores_29 ?_
    refine s_putl S hX G (i := 161) (kd := 9) (b := lx) (b' := (vp_updL lx 3 (lx 6))) (L' := (upL L 161 (vp_updL lx 3 (lx 6)))) (v := .long (lx 6)) (ty := .long) (ty0 := tyX9) (C := RX9) (T := TX9) (N := 13) 3 (rfl : sh 161 = 9) e_lx rfl rfl rfl (by decide) rfl (fun _ h => (List.mem_cons_of_mem _ (List.mem_append_right _ h))) tyX9_ok nmX9 (by decide) (List.mem_of_getElem? (i := 4) rfl) (fun _ h => h) rfl (by decide +kernel) rfl rfl (Nat.le_of_ble_eq_true rfl) dX9_restores_32 (fun H locs G => ?_)
    refine s_vret S G hr hlk dX9_restores_35 ?_
    exact ⟨rfl, (st_eq1 up_eq (fun _ g0 => (up_ne g0))), (lt_eq1 upL_eq (fun _ g0 => (upL_ne g0)))⟩
