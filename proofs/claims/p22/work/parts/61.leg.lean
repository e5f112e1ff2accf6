/-- the state that a leg gets -/
def stF (a : Nat → Int32) (wish dead : Int32) : Int32 := if wish = a 1 ∨ (a 4 = 0 ∧ a 5 = 0) ∨ ¬ a 2 < dead then wish else 0
/-- a slot is counted in a leg -/
def cntF (a : Nat → Int32) : Nat → Int32 := if a 1 = 0 then upd (upd a 2 (a 2 + 1)) 6 (a 6 + 1) else if a 1 = 1 then upd (upd a 2 0) 4 (a 4 + 1) else upd (upd a 2 0) 5 (a 5 + 1)
/-- a slot goes by in a leg -/
def legF (a : Nat → Int32) (wish dead : Int32) : Nat → Int32 := cntF (if stF a wish dead = a 1 then upd a 1 (stF a wish dead) else upd (upd a 1 (stF a wish dead)) 3 (a 3 + 1))
set_option maxHeartbeats 4000000 in
set_option maxRecDepth 100000 in
theorem k_X4_stateFor (l : Launch) (E : Ev) {I : SI} {L : SL} (i : Nat) (wish : Int32) (dead : Int32) (a : Nat → Int32) (hi : sh (i) = 4) (e_a : I (i) = a) : CS l yX4_stateFor wsX4_stateFor ({ frames := 0, cells := 0, slots := 0, locals := 0 }) E [.ref (E.2.2.2 i), .int wish, .int dead] I L (fun vv I' L' => vv = some (.int (stF a wish dead)) ∧ I' = I ∧ L' = L) := by
  refine CS.of (cc := cX4_stateFor) (maxL := 4) (ret := (some .int)) (by decide) rfl (Nat.le_of_ble_eq_true rfl) ?_
  intro pg en sg mg below meth cg ls S hr hlk hX G hl
  have S : CallFix pg mg cg cX4_stateFor 4 sg _ wsX4_stateFor RX4 := S
  have hl : lv_has ls 4 [(0, .ref (E.2.2.2 i)), (1, .int wish), (2, .int dead)] := hl
  refine lv_aload_n S.1 S.2.1 dX4_stateFor_0 rfl (lv_at hl 0 rfl) ?_
  refine s_get S hX G (i := i) (kd := 4) (a := a) (v := .int (a 4)) (C := RX4) (T := TX4) (N := 7) 4 hi e_a rfl rfl (by decide) rfl (fun _ h => (List.mem_cons_of_mem _ (List.mem_append_right _ h))) (by decide) (List.mem_of_getElem? (i := 1) rfl) (fun _ h => h) dX4_stateFor_1 ?_
  refine lv_if_ne (tgt := 18) S.1 S.2.1 dX4_stateFor_4 (by decide) (fun c_1 => ?_) (fun c_1 => ?_)
  · refine lv_iconst (v := (0 : Int32)) S.1 S.2.1 dX4_stateFor_18 (by decide) ?_
    refine lv_istore_n (lv' := [(3, .int (0 : Int32)), (0, .ref (E.2.2.2 i)), (1, .int wish), (2, .int dead)]) S.1 S.2.1 dX4_stateFor_19 rfl hl (by decide) rfl (fun ls hl => ?_)
    refine lv_iload_n S.1 S.2.1 dX4_stateFor_20 rfl (lv_at hl 2 rfl) ?_
    refine lv_aload_n S.1 S.2.1 dX4_stateFor_21 rfl (lv_at hl 1 rfl) ?_
    refine s_get S hX G (i := i) (kd := 4) (a := a) (v := .int (a 1)) (C := RX4) (T := TX4) (N := 7) 1 hi e_a rfl rfl (by decide) rfl (fun _ h => (List.mem_cons_of_mem _ (List.mem_append_right _ h))) (by decide) (List.mem_of_getElem? (i := 3) rfl) (fun _ h => h) dX4_stateFor_22 ?_
    refine lv_icmp_eq (tgt := 40) S.1 S.2.1 dX4_stateFor_25 (by decide) (fun c_2 => ?_) (fun c_2 => ?_)
    · refine lv_iload_n S.1 S.2.1 dX4_stateFor_40 rfl (lv_at hl 2 rfl) ?_
      refine s_iret (x := wish) S G hr hlk dX4_stateFor_41 ?_
      exact ⟨(congrArg (fun q : Int32 => some (Value.int q)) (show wish = (stF a wish dead) by first | (simp [stF, c_1, c_2]; done) | (clear S hX G hl; grind [stF]))), rfl, rfl⟩
    · refine lv_iload_n S.1 S.2.1 dX4_stateFor_28 rfl (lv_at hl 0 rfl) ?_
      refine lv_if_ne (tgt := 40) S.1 S.2.1 dX4_stateFor_29 (by decide) (fun h => absurd (by decide) h) (fun _ => ?_)
      refine lv_aload_n S.1 S.2.1 dX4_stateFor_32 rfl (lv_at hl 1 rfl) ?_
      refine s_get S hX G (i := i) (kd := 4) (a := a) (v := .int (a 2)) (C := RX4) (T := TX4) (N := 7) 2 hi e_a rfl rfl (by decide) rfl (fun _ h => (List.mem_cons_of_mem _ (List.mem_append_right _ h))) (by decide) (List.mem_of_getElem? (i := 4) rfl) (fun _ h => h) dX4_stateFor_33 ?_
      refine lv_iload_n S.1 S.2.1 dX4_stateFor_36 rfl (lv_at hl 3 rfl) ?_
      refine lv_icmp_lt (tgt := 42) S.1 S.2.1 dX4_stateFor_37 (by decide) (fun c_3 => ?_) (fun c_3 => ?_)
      · refine lv_iconst (v := (0 : Int32)) S.1 S.2.1 dX4_stateFor_42 (by decide) ?_
        refine s_iret (x := (0 : Int32)) S G hr hlk dX4_stateFor_43 ?_
        exact ⟨(congrArg (fun q : Int32 => some (Value.int q)) (show (0 : Int32) = (stF a wish dead) by first | (simp [stF, c_1, c_2, c_3]; done) | (clear S hX G hl; grind [stF]))), rfl, rfl⟩
      · refine lv_iload_n S.1 S.2.1 dX4_stateFor_40 rfl (lv_at hl 2 rfl) ?_
        refine s_iret (x := wish) S G hr hlk dX4_stateFor_41 ?_
        exact ⟨(congrArg (fun q : Int32 => some (Value.int q)) (show wish = (stF a wish dead) by first | (simp [stF, c_1, c_2, c_3]; done) | (clear S hX G hl; grind [stF]))), rfl, rfl⟩
  · refine lv_aload_n S.1 S.2.1 dX4_stateFor_7 rfl (lv_at hl 0 rfl) ?_
    refine s_get S hX G (i := i) (kd := 4) (a := a) (v := .int (a 5)) (C := RX4) (T := TX4) (N := 7) 5 hi e_a rfl rfl (by decide) rfl (fun _ h => (List.mem_cons_of_mem _ (List.mem_append_right _ h))) (by decide) (List.mem_of_getElem? (i := 2) rfl) (fun _ h => h) dX4_stateFor_8 ?_
    refine lv_if_ne (tgt := 18) S.1 S.2.1 dX4_stateFor_11 (by decide) (fun c_4 => ?_) (fun c_4 => ?_)
    · refine lv_iconst (v := (0 : Int32)) S.1 S.2.1 dX4_stateFor_18 (by decide) ?_
      refine lv_istore_n (lv' := [(3, .int (0 : Int32)), (0, .ref (E.2.2.2 i)), (1, .int wish), (2, .int dead)]) S.1 S.2.1 dX4_stateFor_19 rfl hl (by decide) rfl (fun ls hl => ?_)
      refine lv_iload_n S.1 S.2.1 dX4_stateFor_20 rfl (lv_at hl 2 rfl) ?_
      refine lv_aload_n S.1 S.2.1 dX4_stateFor_21 rfl (lv_at hl 1 rfl) ?_
      refine s_get S hX G (i := i) (kd := 4) (a := a) (v := .int (a 1)) (C := RX4) (T := TX4) (N := 7) 1 hi e_a rfl rfl (by decide) rfl (fun _ h => (List.mem_cons_of_mem _ (List.mem_append_right _ h))) (by decide) (List.mem_of_getElem? (i := 3) rfl) (fun _ h => h) dX4_stateFor_22 ?_
      refine lv_icmp_eq (tgt := 40) S.1 S.2.1 dX4_stateFor_25 (by decide) (fun c_5 => ?_) (fun c_5 => ?_)
      · refine lv_iload_n S.1 S.2.1 dX4_stateFor_40 rfl (lv_at hl 2 rfl) ?_
        refine s_iret (x := wish) S G hr hlk dX4_stateFor_41 ?_
        exact ⟨(congrArg (fun q : Int32 => some (Value.int q)) (show wish = (stF a wish dead) by first | (simp [stF, c_1, c_4, c_5]; done) | (clear S hX G hl; grind [stF]))), rfl, rfl⟩
      · refine lv_iload_n S.1 S.2.1 dX4_stateFor_28 rfl (lv_at hl 0 rfl) ?_
        refine lv_if_ne (tgt := 40) S.1 S.2.1 dX4_stateFor_29 (by decide) (fun h => absurd (by decide) h) (fun _ => ?_)
        refine lv_aload_n S.1 S.2.1 dX4_stateFor_32 rfl (lv_at hl 1 rfl) ?_
        refine s_get S hX G (i := i) (kd := 4) (a := a) (v := .int (a 2)) (C := RX4) (T := TX4) (N := 7) 2 hi e_a rfl rfl (by decide) rfl (fun _ h => (List.mem_cons_of_mem _ (List.mem_append_right _ h))) (by decide) (List.mem_of_getElem? (i := 4) rfl) (fun _ h => h) dX4_stateFor_33 ?_
        refine lv_iload_n S.1 S.2.1 dX4_stateFor_36 rfl (lv_at hl 3 rfl) ?_
        refine lv_icmp_lt (tgt := 42) S.1 S.2.1 dX4_stateFor_37 (by decide) (fun c_6 => ?_) (fun c_6 => ?_)
        · refine lv_iconst (v := (0 : Int32)) S.1 S.2.1 dX4_stateFor_42 (by decide) ?_
          refine s_iret (x := (0 : Int32)) S G hr hlk dX4_stateFor_43 ?_
          exact ⟨(congrArg (fun q : Int32 => some (Value.int q)) (show (0 : Int32) = (stF a wish dead) by first | (simp [stF, c_1, c_4, c_5, c_6]; done) | (clear S hX G hl; grind [stF]))), rfl, rfl⟩
        · refine lv_iload_n S.1 S.2.1 dX4_stateFor_40 rfl (lv_at hl 2 rfl) ?_
          refine s_iret (x := wish) S G hr hlk dX4_stateFor_41 ?_
          exact ⟨(congrArg (fun q : Int32 => some (Value.int q)) (show wish = (stF a wish dead) by first | (simp [stF, c_1, c_4, c_5, c_6]; done) | (clear S hX G hl; grind [stF]))), rfl, rfl⟩
    · refine lv_iconst (v := (1 : Int32)) S.1 S.2.1 dX4_stateFor_14 (by decide) ?_
      refine lv_goto (tgt := 19) S.1 S.2.1 dX4_stateFor_15 (by decide) ?_
      refine lv_istore_n (lv' := [(3, .int (1 : Int32)), (0, .ref (E.2.2.2 i)), (1, .int wish), (2, .int dead)]) S.1 S.2.1 dX4_stateFor_19 rfl hl (by decide) rfl (fun ls hl => ?_)
      refine lv_iload_n S.1 S.2.1 dX4_stateFor_20 rfl (lv_at hl 2 rfl) ?_
      refine lv_aload_n S.1 S.2.1 dX4_stateFor_21 rfl (lv_at hl 1 rfl) ?_
      refine s_get S hX G (i := i) (kd := 4) (a := a) (v := .int (a 1)) (C := RX4) (T := TX4) (N := 7) 1 hi e_a rfl rfl (by decide) rfl (fun _ h => (List.mem_cons_of_mem _ (List.mem_append_right _ h))) (by decide) (List.mem_of_getElem? (i := 3) rfl) (fun _ h => h) dX4_stateFor_22 ?_
      refine lv_icmp_eq (tgt := 40) S.1 S.2.1 dX4_stateFor_25 (by decide) (fun c_7 => ?_) (fun c_7 => ?_)
      · refine lv_iload_n S.1 S.2.1 dX4_stateFor_40 rfl (lv_at hl 2 rfl) ?_
        refine s_iret (x := wish) S G hr hlk dX4_stateFor_41 ?_
        exact ⟨(congrArg (fun q : Int32 => some (Value.int q)) (show wish = (stF a wish dead) by first | (simp [stF, c_1, c_4, c_7]; done) | (clear S hX G hl; grind [stF]))), rfl, rfl⟩
      · refine lv_iload_n S.1 S.2.1 dX4_stateFor_28 rfl (lv_at hl 0 rfl) ?_
        refine lv_if_ne (tgt := 40) S.1 S.2.1 dX4_stateFor_29 (by decide) (fun _ => ?_) (fun h => absurd h (by decide))
        refine lv_iload_n S.1 S.2.1 dX4_stateFor_40 rfl (lv_at hl 2 rfl) ?_
        refine s_iret (x := wish) S G hr hlk dX4_stateFor_41 ?_
        exact ⟨(congrArg (fun q : Int32 => some (Value.int q)) (show wish = (stF a wish dead) by first | (simp [stF, c_1, c_4, c_7]; done) | (clear S hX G hl; grind [stF]))), rfl, rfl⟩
set_option maxHeartbeats 4000000 in
set_option maxRecDepth 100000 in
theorem k_X4_countSlot (l : Launch) (E : Ev) {I : SI} {L : SL} (i : Nat) (a : Nat → Int32) (hi : sh (i) = 4) (e_a : I (i) = a) : CS l yX4_countSlot wsX4_countSlot ({ frames := 0, cells := 0, slots := 0, locals := 0 }) E [.ref (E.2.2.2 i)] I L (fun vv I' L' => vv = none ∧ I' = (up I (i) (cntF a)) ∧ L' = L) := by
  refine CS.of (cc := cX4_countSlot) (maxL := 1) (ret := none) (by decide) rfl (Nat.le_of_ble_eq_true rfl) ?_
  intro pg en sg mg below meth cg ls S hr hlk hX G hl
  have S : CallFix pg mg cg cX4_countSlot 1 sg _ wsX4_countSlot RX4 := S
  have hl : lv_has ls 1 [(0, .ref (E.2.2.2 i))] := hl
  refine lv_aload_n S.1 S.2.1 dX4_countSlot_0 rfl (lv_at hl 0 rfl) ?_
  refine s_get S hX G (i := i) (kd := 4) (a := a) (v := .int (a 1)) (C := RX4) (T := TX4) (N := 7) 1 hi e_a rfl rfl (by decide) rfl (fun _ h => (List.mem_cons_of_mem _ (List.mem_append_right _ h))) (by decide) (List.mem_of_getElem? (i := 1) rfl) (fun _ h => h) dX4_countSlot_1 ?_
  refine lv_if_ne (tgt := 28) S.1 S.2.1 dX4_countSlot_4 (by decide) (fun c_1 => ?_) (fun c_1 => ?_)
  · refine lv_aload_n S.1 S.2.1 dX4_countSlot_28 rfl (lv_at hl 0 rfl) ?_
    refine lv_iconst (v := (0 : Int32)) S.1 S.2.1 dX4_countSlot_29 (by decide) ?_
    refine s_put S hX G (i := i) (kd := 4) (a := a) (a' := (upd a 2 (0 : Int32))) (I' := (up I i (upd a 2 (0 : Int32)))) (v := .int (0 : Int32)) (ty := .int) (ty0 := tyX4) (C := RX4) (T := TX4) (N := 7) 2 hi e_a rfl rfl rfl (by decide) rfl (fun _ h => (List.mem_cons_of_mem _ (List.mem_append_right _ h))) tyX4_ok nmX4 (by decide) (List.mem_of_getElem? (i := 2) rfl) (fun _ h => h) rfl (by decide +kernel) rfl rfl (Nat.le_of_ble_eq_true rfl) dX4_countSlot_30 (fun H locs G => ?_)
    refine lv_aload_n S.1 S.2.1 dX4_countSlot_33 rfl (lv_at hl 0 rfl) ?_
    refine s_get S hX G (i := i) (kd := 4) (a := (upd a 2 (0 : Int32))) (v := .int (a 1)) (C := RX4) (T := TX4) (N := 7) 1 hi up_eq rfl rfl (by decide) rfl (fun _ h => (List.mem_cons_of_mem _ (List.mem_append_right _ h))) (by decide) (List.mem_of_getElem? (i := 1) rfl) (fun _ h => h) dX4_countSlot_34 ?_
    refine lv_iconst (v := (1 : Int32)) S.1 S.2.1 dX4_countSlot_37 (by decide) ?_
    refine lv_icmp_ne (tgt := 54) S.1 S.2.1 dX4_countSlot_38 (by decide) (fun c_2 => ?_) (fun c_2 => ?_)
    · refine lv_aload_n S.1 S.2.1 dX4_countSlot_54 rfl (lv_at hl 0 rfl) ?_
      refine lv_dup S.1 S.2.1 dX4_countSlot_55 rfl ?_
      refine s_get S hX G (i := i) (kd := 4) (a := (upd a 2 (0 : Int32))) (v := .int (a 5)) (C := RX4) (T := TX4) (N := 7) 5 hi up_eq rfl rfl (by decide) rfl (fun _ h => (List.mem_cons_of_mem _ (List.mem_append_right _ h))) (by decide) (List.mem_of_getElem? (i := 5) rfl) (fun _ h => h) dX4_countSlot_56 ?_
      refine lv_iconst (v := (1 : Int32)) S.1 S.2.1 dX4_countSlot_59 (by decide) ?_
      refine s_iadd (v := ((a 5) + (1 : Int32))) S dX4_countSlot_60 rfl ?_
      refine lv_topi (fun y_3 ey_3 => ?_)
      refine s_put S hX G (i := i) (kd := 4) (a := (upd a 2 (0 : Int32))) (a' := (upd (upd a 2 (0 : Int32)) 5 y_3)) (I' := (up I i (upd (upd a 2 (0 : Int32)) 5 y_3))) (v := .int y_3) (ty := .int) (ty0 := tyX4) (C := RX4) (T := TX4) (N := 7) 5 hi up_eq rfl rfl (by rw [up_up]) (by decide) rfl (fun _ h => (List.mem_cons_of_mem _ (List.mem_append_right _ h))) tyX4_ok nmX4 (by decide) (List.mem_of_getElem? (i := 5) rfl) (fun _ h => h) rfl (by decide +kernel) rfl rfl (Nat.le_of_ble_eq_true rfl) dX4_countSlot_61 (fun H locs G => ?_)
      refine s_vret S G hr hlk dX4_countSlot_64 ?_
      exact ⟨rfl, (st_eq1 (Eq.trans up_eq (show (upd (upd a 2 (0 : Int32)) 5 y_3) = (cntF a) by subst ey_3; simp [cntF, c_1, c_2])) (fun _ g0 => (up_ne g0))), rfl⟩
    · refine lv_aload_n S.1 S.2.1 dX4_countSlot_41 rfl (lv_at hl 0 rfl) ?_
      refine lv_dup S.1 S.2.1 dX4_countSlot_42 rfl ?_
      refine s_get S hX G (i := i) (kd := 4) (a := (upd a 2 (0 : Int32))) (v := .int (a 4)) (C := RX4) (T := TX4) (N := 7) 4 hi up_eq rfl rfl (by decide) rfl (fun _ h => (List.mem_cons_of_mem _ (List.mem_append_right _ h))) (by decide) (List.mem_of_getElem? (i := 4) rfl) (fun _ h => h) dX4_countSlot_43 ?_
      refine lv_iconst (v := (1 : Int32)) S.1 S.2.1 dX4_countSlot_46 (by decide) ?_
      refine s_iadd (v := ((a 4) + (1 : Int32))) S dX4_countSlot_47 rfl ?_
      refine lv_topi (fun y_4 ey_4 => ?_)
      refine s_put S hX G (i := i) (kd := 4) (a := (upd a 2 (0 : Int32))) (a' := (upd (upd a 2 (0 : Int32)) 4 y_4)) (I' := (up I i (upd (upd a 2 (0 : Int32)) 4 y_4))) (v := .int y_4) (ty := .int) (ty0 := tyX4) (C := RX4) (T := TX4) (N := 7) 4 hi up_eq rfl rfl (by rw [up_up]) (by decide) rfl (fun _ h => (List.mem_cons_of_mem _ (List.mem_append_right _ h))) tyX4_ok nmX4 (by decide) (List.mem_of_getElem? (i := 4) rfl) (fun _ h => h) rfl (by decide +kernel) rfl rfl (Nat.le_of_ble_eq_true rfl) dX4_countSlot_48 (fun H locs G => ?_)
      refine lv_goto (tgt := 64) S.1 S.2.1 dX4_countSlot_51 (by decide) ?_
      refine s_vret S G hr hlk dX4_countSlot_64 ?_
      exact ⟨rfl, (st_eq1 (Eq.trans up_eq (show (upd (upd a 2 (0 : Int32)) 4 y_4) = (cntF a) by subst ey_4; simp [cntF, c_1, c_2])) (fun _ g0 => (up_ne g0))), rfl⟩
  · refine lv_aload_n S.1 S.2.1 dX4_countSlot_7 rfl (lv_at hl 0 rfl) ?_
    refine lv_dup S.1 S.2.1 dX4_countSlot_8 rfl ?_
    refine s_get S hX G (i := i) (kd := 4) (a := a) (v := .int (a 2)) (C := RX4) (T := TX4) (N := 7) 2 hi e_a rfl rfl (by decide) rfl (fun _ h => (List.mem_cons_of_mem _ (List.mem_append_right _ h))) (by decide) (List.mem_of_getElem? (i := 2) rfl) (fun _ h => h) dX4_countSlot_9 ?_
    refine lv_iconst (v := (1 : Int32)) S.1 S.2.1 dX4_countSlot_12 (by decide) ?_
    refine s_iadd (v := ((a 2) + (1 : Int32))) S dX4_countSlot_13 rfl ?_
    refine lv_topi (fun y_5 ey_5 => ?_)
    refine s_put S hX G (i := i) (kd := 4) (a := a) (a' := (upd a 2 y_5)) (I' := (up I i (upd a 2 y_5))) (v := .int y_5) (ty := .int) (ty0 := tyX4) (C := RX4) (T := TX4) (N := 7) 2 hi e_a rfl rfl rfl (by decide) rfl (fun _ h => (List.mem_cons_of_mem _ (List.mem_append_right _ h))) tyX4_ok nmX4 (by decide) (List.mem_of_getElem? (i := 2) rfl) (fun _ h => h) rfl (by decide +kernel) rfl rfl (Nat.le_of_ble_eq_true rfl) dX4_countSlot_14 (fun H locs G => ?_)
    refine lv_aload_n S.1 S.2.1 dX4_countSlot_17 rfl (lv_at hl 0 rfl) ?_
    refine lv_dup S.1 S.2.1 dX4_countSlot_18 rfl ?_
    refine s_get S hX G (i := i) (kd := 4) (a := (upd a 2 y_5)) (v := .int (a 6)) (C := RX4) (T := TX4) (N := 7) 6 hi up_eq rfl rfl (by decide) rfl (fun _ h => (List.mem_cons_of_mem _ (List.mem_append_right _ h))) (by decide) (List.mem_of_getElem? (i := 3) rfl) (fun _ h => h) dX4_countSlot_19 ?_
    refine lv_iconst (v := (1 : Int32)) S.1 S.2.1 dX4_countSlot_22 (by decide) ?_
    refine s_iadd (v := ((a 6) + (1 : Int32))) S dX4_countSlot_23 rfl ?_
    refine lv_topi (fun y_6 ey_6 => ?_)
    refine s_put S hX G (i := i) (kd := 4) (a := (upd a 2 y_5)) (a' := (upd (upd a 2 y_5) 6 y_6)) (I' := (up I i (upd (upd a 2 y_5) 6 y_6))) (v := .int y_6) (ty := .int) (ty0 := tyX4) (C := RX4) (T := TX4) (N := 7) 6 hi up_eq rfl rfl (by rw [up_up]) (by decide) rfl (fun _ h => (List.mem_cons_of_mem _ (List.mem_append_right _ h))) tyX4_ok nmX4 (by decide) (List.mem_of_getElem? (i := 3) rfl) (fun _ h => h) rfl (by decide +kernel) rfl rfl (Nat.le_of_ble_eq_true rfl) dX4_countSlot_24 (fun H locs G => ?_)
    refine s_vret S G hr hlk dX4_countSlot_27 ?_
    exact ⟨rfl, (st_eq1 (Eq.trans up_eq (show (upd (upd a 2 y_5) 6 y_6) = (cntF a) by subst ey_6 ey_5; simp [cntF, c_1])) (fun _ g0 => (up_ne g0))), rfl⟩
set_option maxHeartbeats 4000000 in
set_option maxRecDepth 100000 in
theorem k_X4_pass (l : Launch) (E : Ev) {I : SI} {L : SL} (i : Nat) (wish : Int32) (dead : Int32) (a : Nat → Int32) (hi : sh (i) = 4) (e_a : I (i) = a) : CS l yX4_pass wsX4_pass ({ frames := 1, cells := 0, slots := 0, locals := 23 }) E [.ref (E.2.2.2 i), .int wish, .int dead] I L (fun vv I' L' => vv = some (.int (if ¬ stF a wish dead = a 1 then 1 else 0)) ∧ I' = (up I (i) (legF a wish dead)) ∧ L' = L) := by
  refine CS.of (cc := cX4_pass) (maxL := 5) (ret := (some .boolean)) (by decide) rfl (Nat.le_of_ble_eq_true rfl) ?_
  intro pg en sg mg below meth cg ls S hr hlk hX G hl
  have S : CallFix pg mg cg cX4_pass 5 sg _ wsX4_pass RX4 := S
  have hl : lv_has ls 5 [(0, .ref (E.2.2.2 i)), (1, .int wish), (2, .int dead)] := hl
  refine lv_aload_n S.1 S.2.1 dX4_pass_0 rfl (lv_at hl 0 rfl) ?_
  refine lv_iload_n S.1 S.2.1 dX4_pass_1 rfl (lv_at hl 1 rfl) ?_
  refine lv_iload_n S.1 S.2.1 dX4_pass_2 rfl (lv_at hl 2 rfl) ?_
  refine s_callV (C := RX4) (As := [.int wish, .int dead]) (rest := []) (i := i) (kd := 4) S hX G (k_X4_stateFor l E i wish dead a hi e_a) (cwV (bytes := cX4_stateFor) (maxL := 4) (ret := (some .int)) 2 S.2.2.2.2 gX4_pass_X4_stateFor rfl rfl rfl (by decide +kernel) ⟨Nat.le_of_ble_eq_true rfl, Nat.le_of_ble_eq_true rfl⟩) hi rfl rfl rfl (by decide) rfl hl.1 rfl (Nat.le_of_ble_eq_true rfl) ⟨Nat.zero_le _, Nat.zero_le _⟩ dX4_pass_3 (fun v I1 L1 H locs hR G => ?_)
  obtain ⟨hv, hI, hL⟩ := hR
  subst hv
  have G : GS E I L sg H locs := G.same hI hL
  refine W.eq (g2 := F0 mg 6 ls [.int (stF a wish dead)]) rfl ?_
  refine lv_topi (fun y_1 ey_1 => ?_)
  refine lv_istore_n (lv' := [(3, .int y_1), (0, .ref (E.2.2.2 i)), (1, .int wish), (2, .int dead)]) S.1 S.2.1 dX4_pass_6 rfl hl (by decide) rfl (fun ls hl => ?_)
  refine lv_iload_n S.1 S.2.1 dX4_pass_7 rfl (lv_at hl 0 rfl) ?_
  refine lv_aload_n S.1 S.2.1 dX4_pass_8 rfl (lv_at hl 1 rfl) ?_
  refine s_get S hX G (i := i) (kd := 4) (a := a) (v := .int (a 1)) (C := RX4) (T := TX4) (N := 7) 1 hi e_a rfl rfl (by decide) rfl (fun _ h => (List.mem_cons_of_mem _ (List.mem_append_right _ h))) (by decide) (List.mem_of_getElem? (i := 1) rfl) (fun _ h => h) dX4_pass_9 ?_
  refine lv_icmp_eq (tgt := 19) S.1 S.2.1 dX4_pass_12 (by decide) (fun c_2 => ?_) (fun c_2 => ?_)
  · refine lv_iconst (v := (0 : Int32)) S.1 S.2.1 dX4_pass_19 (by decide) ?_
    refine lv_istore (lv' := [(4, .int (0 : Int32)), (3, .int y_1), (0, .ref (E.2.2.2 i)), (1, .int wish), (2, .int dead)]) S.1 S.2.1 dX4_pass_20 hl (by decide) rfl (fun ls hl => ?_)
    refine lv_aload_n S.1 S.2.1 dX4_pass_22 rfl (lv_at hl 2 rfl) ?_
    refine lv_iload_n S.1 S.2.1 dX4_pass_23 rfl (lv_at hl 1 rfl) ?_
    refine s_put S hX G (i := i) (kd := 4) (a := a) (a' := (upd a 1 y_1)) (I' := (up I i (upd a 1 y_1))) (v := .int y_1) (ty := .int) (ty0 := tyX4) (C := RX4) (T := TX4) (N := 7) 1 hi e_a rfl rfl rfl (by decide) rfl (fun _ h => (List.mem_cons_of_mem _ (List.mem_append_right _ h))) tyX4_ok nmX4 (by decide) (List.mem_of_getElem? (i := 1) rfl) (fun _ h => h) rfl (by decide +kernel) rfl rfl (Nat.le_of_ble_eq_true rfl) dX4_pass_24 (fun H locs G => ?_)
    refine lv_iload S.1 S.2.1 dX4_pass_27 (lv_at hl 0 rfl) ?_
    refine lv_if_eq (tgt := 42) S.1 S.2.1 dX4_pass_29 (by decide) (fun _ => ?_) (fun h => absurd (by decide) h)
    refine lv_aload_n S.1 S.2.1 dX4_pass_42 rfl (lv_at hl 2 rfl) ?_
    refine s_callV (C := RX4) (As := []) (rest := []) (i := i) (kd := 4) S hX G (k_X4_countSlot l E i (upd a 1 y_1) hi up_eq) (cwV (bytes := cX4_countSlot) (maxL := 1) (ret := none) 0 S.2.2.2.2 gX4_pass_X4_countSlot rfl rfl rfl (by decide +kernel) ⟨Nat.le_of_ble_eq_true rfl, Nat.le_of_ble_eq_true rfl⟩) hi rfl rfl rfl (by decide) rfl hl.1 rfl (Nat.le_of_ble_eq_true rfl) ⟨Nat.zero_le _, Nat.zero_le _⟩ dX4_pass_43 (fun v I1 L1 H locs hR G => ?_)
    obtain ⟨hv, hI, hL⟩ := hR
    subst hv
    obtain ⟨r_3, er_3⟩ : ∃ r : Nat → Int32, r = (cntF (upd a 1 y_1)) := ⟨_, rfl⟩
    rw [← er_3] at hI
    have G : GS E (up I i r_3) L sg H locs := G.same (hI.trans (by rw [up_up])) hL
    refine W.eq (g2 := F0 mg 46 ls []) rfl ?_
    refine lv_iload S.1 S.2.1 dX4_pass_46 (lv_at hl 0 rfl) ?_
    refine s_zret (x := (0 : Int32)) S G hr hlk dX4_pass_48 (Or.inl rfl) ?_
    exact ⟨(congrArg (fun q : Int32 => some (Value.int q)) (show (0 : Int32) = (if ¬ stF a wish dead = a 1 then 1 else 0) by subst er_3 ey_1; simp [legF, c_2])), (st_eq1 (Eq.trans up_eq (show r_3 = (legF a wish dead) by subst er_3 ey_1; simp [legF, c_2])) (fun _ g0 => (up_ne g0))), rfl⟩
  · refine lv_iconst (v := (1 : Int32)) S.1 S.2.1 dX4_pass_15 (by decide) ?_
    refine lv_goto (tgt := 20) S.1 S.2.1 dX4_pass_16 (by decide) ?_
    refine lv_istore (lv' := [(4, .int (1 : Int32)), (3, .int y_1), (0, .ref (E.2.2.2 i)), (1, .int wish), (2, .int dead)]) S.1 S.2.1 dX4_pass_20 hl (by decide) rfl (fun ls hl => ?_)
    refine lv_aload_n S.1 S.2.1 dX4_pass_22 rfl (lv_at hl 2 rfl) ?_
    refine lv_iload_n S.1 S.2.1 dX4_pass_23 rfl (lv_at hl 1 rfl) ?_
    refine s_put S hX G (i := i) (kd := 4) (a := a) (a' := (upd a 1 y_1)) (I' := (up I i (upd a 1 y_1))) (v := .int y_1) (ty := .int) (ty0 := tyX4) (C := RX4) (T := TX4) (N := 7) 1 hi e_a rfl rfl rfl (by decide) rfl (fun _ h => (List.mem_cons_of_mem _ (List.mem_append_right _ h))) tyX4_ok nmX4 (by decide) (List.mem_of_getElem? (i := 1) rfl) (fun _ h => h) rfl (by decide +kernel) rfl rfl (Nat.le_of_ble_eq_true rfl) dX4_pass_24 (fun H locs G => ?_)
    refine lv_iload S.1 S.2.1 dX4_pass_27 (lv_at hl 0 rfl) ?_
    refine lv_if_eq (tgt := 42) S.1 S.2.1 dX4_pass_29 (by decide) (fun h => absurd h (by decide)) (fun _ => ?_)
    refine lv_aload_n S.1 S.2.1 dX4_pass_32 rfl (lv_at hl 2 rfl) ?_
    refine lv_dup S.1 S.2.1 dX4_pass_33 rfl ?_
    refine s_get S hX G (i := i) (kd := 4) (a := (upd a 1 y_1)) (v := .int (a 3)) (C := RX4) (T := TX4) (N := 7) 3 hi up_eq rfl rfl (by decide) rfl (fun _ h => (List.mem_cons_of_mem _ (List.mem_append_right _ h))) (by decide) (List.mem_of_getElem? (i := 2) rfl) (fun _ h => h) dX4_pass_34 ?_
    refine lv_iconst (v := (1 : Int32)) S.1 S.2.1 dX4_pass_37 (by decide) ?_
    refine s_iadd (v := ((a 3) + (1 : Int32))) S dX4_pass_38 rfl ?_
    refine lv_topi (fun y_4 ey_4 => ?_)
    refine s_put S hX G (i := i) (kd := 4) (a := (upd a 1 y_1)) (a' := (upd (upd a 1 y_1) 3 y_4)) (I' := (up I i (upd (upd a 1 y_1) 3 y_4))) (v := .int y_4) (ty := .int) (ty0 := tyX4) (C := RX4) (T := TX4) (N := 7) 3 hi up_eq rfl rfl (by rw [up_up]) (by decide) rfl (fun _ h => (List.mem_cons_of_mem _ (List.mem_append_right _ h))) tyX4_ok nmX4 (by decide) (List.mem_of_getElem? (i := 2) rfl) (fun _ h => h) rfl (by decide +kernel) rfl rfl (Nat.le_of_ble_eq_true rfl) dX4_pass_39 (fun H locs G => ?_)
    refine lv_aload_n S.1 S.2.1 dX4_pass_42 rfl (lv_at hl 2 rfl) ?_
    refine s_callV (C := RX4) (As := []) (rest := []) (i := i) (kd := 4) S hX G (k_X4_countSlot l E i (upd (upd a 1 y_1) 3 y_4) hi up_eq) (cwV (bytes := cX4_countSlot) (maxL := 1) (ret := none) 0 S.2.2.2.2 gX4_pass_X4_countSlot rfl rfl rfl (by decide +kernel) ⟨Nat.le_of_ble_eq_true rfl, Nat.le_of_ble_eq_true rfl⟩) hi rfl rfl rfl (by decide) rfl hl.1 rfl (Nat.le_of_ble_eq_true rfl) ⟨Nat.zero_le _, Nat.zero_le _⟩ dX4_pass_43 (fun v I1 L1 H locs hR G => ?_)
    obtain ⟨hv, hI, hL⟩ := hR
    subst hv
    obtain ⟨r_5, er_5⟩ : ∃ r : Nat → Int32, r = (cntF (upd (upd a 1 y_1) 3 y_4)) := ⟨_, rfl⟩
    rw [← er_5] at hI
    have G : GS E (up I i r_5) L sg H locs := G.same (hI.trans (by rw [up_up])) hL
    refine W.eq (g2 := F0 mg 46 ls []) rfl ?_
    refine lv_iload S.1 S.2.1 dX4_pass_46 (lv_at hl 0 rfl) ?_
    refine s_zret (x := (1 : Int32)) S G hr hlk dX4_pass_48 (Or.inr rfl) ?_
    exact ⟨(congrArg (fun q : Int32 => some (Value.int q)) (show (1 : Int32) = (if ¬ stF a wish dead = a 1 then 1 else 0) by subst er_5 ey_4 ey_1; simp [legF, c_2])), (st_eq1 (Eq.trans up_eq (show r_5 = (legF a wish dead) by subst er_5 ey_4 ey_1; simp [legF, c_2])) (fun _ g0 => (up_ne g0))), rfl⟩
set_option maxHeartbeats 4000000 in
set_option maxRecDepth 100000 in
theorem k_X4_copyFrom (l : Launch) (E : Ev) {I : SI} {L : SL} (i : Nat) (j : Nat) (a : Nat → Int32) (b : Nat → Int32) (hi : sh (i) = 4) (hj : sh (j) = 4) (e_a : I (i) = a) (e_b : I (j) = b) (hne : i ≠ j) : CS l yX4_copyFrom wsX4_copyFrom ({ frames := 0, cells := 0, slots := 0, locals := 0 }) E [.ref (E.2.2.2 i), .ref (E.2.2.2 j)] I L (fun vv I' L' => vv = none ∧ I' = (up I (i) (upd (upd (upd (upd (upd (upd (upd a 0 (b 0)) 1 (b 1)) 2 (b 2)) 3 (b 3)) 4 (b 4)) 5 (b 5)) 6 (b 6))) ∧ L' = L) := by
  refine CS.of (cc := cX4_copyFrom) (maxL := 2) (ret := none) (by decide) rfl (Nat.le_of_ble_eq_true rfl) ?_
  intro pg en sg mg below meth cg ls S hr hlk hX G hl
  have S : CallFix pg mg cg cX4_copyFrom 2 sg _ wsX4_copyFrom RX4 := S
  have hl : lv_has ls 2 [(0, .ref (E.2.2.2 i)), (1, .ref (E.2.2.2 j))] := hl
  refine lv_aload_n S.1 S.2.1 dX4_copyFrom_0 rfl (lv_at hl 0 rfl) ?_
  refine lv_aload_n S.1 S.2.1 dX4_copyFrom_1 rfl (lv_at hl 1 rfl) ?_
  refine s_get S hX G (i := j) (kd := 4) (a := b) (v := .int (b 0)) (C := RX4) (T := TX4) (N := 7) 0 hj e_b rfl rfl (by decide) rfl (fun _ h => (List.mem_cons_of_mem _ (List.mem_append_right _ h))) (by decide) (List.mem_of_getElem? (i := 1) rfl) (fun _ h => h) dX4_copyFrom_2 ?_
  refine s_put S hX G (i := i) (kd := 4) (a := a) (a' := (upd a 0 (b 0))) (I' := (up I i (upd a 0 (b 0)))) (v := .int (b 0)) (ty := .int) (ty0 := tyX4) (C := RX4) (T := TX4) (N := 7) 0 hi e_a rfl rfl rfl (by decide) rfl (fun _ h => (List.mem_cons_of_mem _ (List.mem_append_right _ h))) tyX4_ok nmX4 (by decide) (List.mem_of_getElem? (i := 1) rfl) (fun _ h => h) rfl (by decide +kernel) rfl rfl (Nat.le_of_ble_eq_true rfl) dX4_copyFrom_5 (fun H locs G => ?_)
  refine lv_aload_n S.1 S.2.1 dX4_copyFrom_8 rfl (lv_at hl 0 rfl) ?_
  refine lv_aload_n S.1 S.2.1 dX4_copyFrom_9 rfl (lv_at hl 1 rfl) ?_
  refine s_get S hX G (i := j) (kd := 4) (a := b) (v := .int (b 1)) (C := RX4) (T := TX4) (N := 7) 1 hj ((up_ne (by omega)).trans e_b) rfl rfl (by decide) rfl (fun _ h => (List.mem_cons_of_mem _ (List.mem_append_right _ h))) (by decide) (List.mem_of_getElem? (i := 2) rfl) (fun _ h => h) dX4_copyFrom_10 ?_
  refine s_put S hX G (i := i) (kd := 4) (a := (upd a 0 (b 0))) (a' := (upd (upd a 0 (b 0)) 1 (b 1))) (I' := (up I i (upd (upd a 0 (b 0)) 1 (b 1)))) (v := .int (b 1)) (ty := .int) (ty0 := tyX4) (C := RX4) (T := TX4) (N := 7) 1 hi up_eq rfl rfl (by rw [up_up]) (by decide) rfl (fun _ h => (List.mem_cons_of_mem _ (List.mem_append_right _ h))) tyX4_ok nmX4 (by decide) (List.mem_of_getElem? (i := 2) rfl) (fun _ h => h) rfl (by decide +kernel) rfl rfl (Nat.le_of_ble_eq_true rfl) dX4_copyFrom_13 (fun H locs G => ?_)
  refine lv_aload_n S.1 S.2.1 dX4_copyFrom_16 rfl (lv_at hl 0 rfl) ?_
  refine lv_aload_n S.1 S.2.1 dX4_copyFrom_17 rfl (lv_at hl 1 rfl) ?_
  refine s_get S hX G (i := j) (kd := 4) (a := b) (v := .int (b 2)) (C := RX4) (T := TX4) (N := 7) 2 hj ((up_ne (by omega)).trans e_b) rfl rfl (by decide) rfl (fun _ h => (List.mem_cons_of_mem _ (List.mem_append_right _ h))) (by decide) (List.mem_of_getElem? (i := 3) rfl) (fun _ h => h) dX4_copyFrom_18 ?_
  refine s_put S hX G (i := i) (kd := 4) (a := (upd (upd a 0 (b 0)) 1 (b 1))) (a' := (upd (upd (upd a 0 (b 0)) 1 (b 1)) 2 (b 2))) (I' := (up I i (upd (upd (upd a 0 (b 0)) 1 (b 1)) 2 (b 2)))) (v := .int (b 2)) (ty := .int) (ty0 := tyX4) (C := RX4) (T := TX4) (N := 7) 2 hi up_eq rfl rfl (by rw [up_up]) (by decide) rfl (fun _ h => (List.mem_cons_of_mem _ (List.mem_append_right _ h))) tyX4_ok nmX4 (by decide) (List.mem_of_getElem? (i := 3) rfl) (fun _ h => h) rfl (by decide +kernel) rfl rfl (Nat.le_of_ble_eq_true rfl) dX4_copyFrom_21 (fun H locs G => ?_)
  refine lv_aload_n S.1 S.2.1 dX4_copyFrom_24 rfl (lv_at hl 0 rfl) ?_
  refine lv_aload_n S.1 S.2.1 dX4_copyFrom_25 rfl (lv_at hl 1 rfl) ?_
  refine s_get S hX G (i := j) (kd := 4) (a := b) (v := .int (b 3)) (C := RX4) (T := TX4) (N := 7) 3 hj ((up_ne (by omega)).trans e_b) rfl rfl (by decide) rfl (fun _ h => (List.mem_cons_of_mem _ (List.mem_append_right _ h))) (by decide) (List.mem_of_getElem? (i := 4) rfl) (fun _ h => h) dX4_copyFrom_26 ?_
  refine s_put S hX G (i := i) (kd := 4) (a := (upd (upd (upd a 0 (b 0)) 1 (b 1)) 2 (b 2))) (a' := (upd (upd (upd (upd a 0 (b 0)) 1 (b 1)) 2 (b 2)) 3 (b 3))) (I' := (up I i (upd (upd (upd (upd a 0 (b 0)) 1 (b 1)) 2 (b 2)) 3 (b 3)))) (v := .int (b 3)) (ty := .int) (ty0 := tyX4) (C := RX4) (T := TX4) (N := 7) 3 hi up_eq rfl rfl (by rw [up_up]) (by decide) rfl (fun _ h => (List.mem_cons_of_mem _ (List.mem_append_right _ h))) tyX4_ok nmX4 (by decide) (List.mem_of_getElem? (i := 4) rfl) (fun _ h => h) rfl (by decide +kernel) rfl rfl (Nat.le_of_ble_eq_true rfl) dX4_copyFrom_29 (fun H locs G => ?_)
  refine lv_aload_n S.1 S.2.1 dX4_copyFrom_32 rfl (lv_at hl 0 rfl) ?_
  refine lv_aload_n S.1 S.2.1 dX4_copyFrom_33 rfl (lv_at hl 1 rfl) ?_
  refine s_get S hX G (i := j) (kd := 4) (a := b) (v := .int (b 4)) (C := RX4) (T := TX4) (N := 7) 4 hj ((up_ne (by omega)).trans e_b) rfl rfl (by decide) rfl (fun _ h => (List.mem_cons_of_mem _ (List.mem_append_right _ h))) (by decide) (List.mem_of_getElem? (i := 5) rfl) (fun _ h => h) dX4_copyFrom_34 ?_
  refine s_put S hX G (i := i) (kd := 4) (a := (upd (upd (upd (upd a 0 (b 0)) 1 (b 1)) 2 (b 2)) 3 (b 3))) (a' := (upd (upd (upd (upd (upd a 0 (b 0)) 1 (b 1)) 2 (b 2)) 3 (b 3)) 4 (b 4))) (I' := (up I i (upd (upd (upd (upd (upd a 0 (b 0)) 1 (b 1)) 2 (b 2)) 3 (b 3)) 4 (b 4)))) (v := .int (b 4)) (ty := .int) (ty0 := tyX4) (C := RX4) (T := TX4) (N := 7) 4 hi up_eq rfl rfl (by rw [up_up]) (by decide) rfl (fun _ h => (List.mem_cons_of_mem _ (List.mem_append_right _ h))) tyX4_ok nmX4 (by decide) (List.mem_of_getElem? (i := 5) rfl) (fun _ h => h) rfl (by decide +kernel) rfl rfl (Nat.le_of_ble_eq_true rfl) dX4_copyFrom_37 (fun H locs G => ?_)
  refine lv_aload_n S.1 S.2.1 dX4_copyFrom_40 rfl (lv_at hl 0 rfl) ?_
  refine lv_aload_n S.1 S.2.1 dX4_copyFrom_41 rfl (lv_at hl 1 rfl) ?_
  refine s_get S hX G (i := j) (kd := 4) (a := b) (v := .int (b 5)) (C := RX4) (T := TX4) (N := 7) 5 hj ((up_ne (by omega)).trans e_b) rfl rfl (by decide) rfl (fun _ h => (List.mem_cons_of_mem _ (List.mem_append_right _ h))) (by decide) (List.mem_of_getElem? (i := 6) rfl) (fun _ h => h) dX4_copyFrom_42 ?_
  refine s_put S hX G (i := i) (kd := 4) (a := (upd (upd (upd (upd (upd a 0 (b 0)) 1 (b 1)) 2 (b 2)) 3 (b 3)) 4 (b 4))) (a' := (upd (upd (upd (upd (upd (upd a 0 (b 0)) 1 (b 1)) 2 (b 2)) 3 (b 3)) 4 (b 4)) 5 (b 5))) (I' := (up I i (upd (upd (upd (upd (upd (upd a 0 (b 0)) 1 (b 1)) 2 (b 2)) 3 (b 3)) 4 (b 4)) 5 (b 5)))) (v := .int (b 5)) (ty := .int) (ty0 := tyX4) (C := RX4) (T := TX4) (N := 7) 5 hi up_eq rfl rfl (by rw [up_up]) (by decide) rfl (fun _ h => (List.mem_cons_of_mem _ (List.mem_append_right _ h))) tyX4_ok nmX4 (by decide) (List.mem_of_getElem? (i := 6) rfl) (fun _ h => h) rfl (by decide +kernel) rfl rfl (Nat.le_of_ble_eq_true rfl) dX4_copyFrom_45 (fun H locs G => ?_)
  refine lv_aload_n S.1 S.2.1 dX4_copyFrom_48 rfl (lv_at hl 0 rfl) ?_
  refine lv_aload_n S.1 S.2.1 dX4_copyFrom_49 rfl (lv_at hl 1 rfl) ?_
  refine s_get S hX G (i := j) (kd := 4) (a := b) (v := .int (b 6)) (C := RX4) (T := TX4) (N := 7) 6 hj ((up_ne (by omega)).trans e_b) rfl rfl (by decide) rfl (fun _ h => (List.mem_cons_of_mem _ (List.mem_append_right _ h))) (by decide) (List.mem_of_getElem? (i := 7) rfl) (fun _ h => h) dX4_copyFrom_50 ?_
  refine s_put S hX G (i := i) (kd := 4) (a := (upd (upd (upd (upd (upd (upd a 0 (b 0)) 1 (b 1)) 2 (b 2)) 3 (b 3)) 4 (b 4)) 5 (b 5))) (a' := (upd (upd (upd (upd (upd (upd (upd a 0 (b 0)) 1 (b 1)) 2 (b 2)) 3 (b 3)) 4 (b 4)) 5 (b 5)) 6 (b 6))) (I' := (up I i (upd (upd (upd (upd (upd (upd (upd a 0 (b 0)) 1 (b 1)) 2 (b 2)) 3 (b 3)) 4 (b 4)) 5 (b 5)) 6 (b 6)))) (v := .int (b 6)) (ty := .int) (ty0 := tyX4) (C := RX4) (T := TX4) (N := 7) 6 hi up_eq rfl rfl (by rw [up_up]) (by decide) rfl (fun _ h => (List.mem_cons_of_mem _ (List.mem_append_right _ h))) tyX4_ok nmX4 (by decide) (List.mem_of_getElem? (i := 7) rfl) (fun _ h => h) rfl (by decide +kernel) rfl rfl (Nat.le_of_ble_eq_true rfl) dX4_copyFrom_53 (fun H locs G => ?_)
  refine s_vret S G hr hlk dX4_copyFrom_56 ?_
  exact ⟨rfl, (st_eq1 up_eq (fun _ g0 => (up_ne g0))), rfl⟩
