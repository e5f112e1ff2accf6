theorem ld_of_b0 {B : Nat} (h : IsB B) : IsLd (B + 1) := fun k hk => by
  have h1 := h (1 + k) (by omega)
  rw [← Nat.add_assoc] at h1
  rw [h1]
  rcases (show k = 0 ∨ k = 1 ∨ k = 2 ∨ k = 3 ∨ k = 4 ∨ k = 5 ∨ k = 6 ∨ k = 7 ∨ k = 8 by omega) with rfl | rfl | rfl | rfl | rfl | rfl | rfl | rfl | rfl <;> rfl
theorem ld_of_b1 {B : Nat} (h : IsB B) : IsLd (B + 10) := fun k hk => by
  have h1 := h (10 + k) (by omega)
  rw [← Nat.add_assoc] at h1
  rw [h1]
  rcases (show k = 0 ∨ k = 1 ∨ k = 2 ∨ k = 3 ∨ k = 4 ∨ k = 5 ∨ k = 6 ∨ k = 7 ∨ k = 8 by omega) with rfl | rfl | rfl | rfl | rfl | rfl | rfl | rfl | rfl <;> rfl
def fWishF (b p q n : Nat → Int32) : Int32 := if n 3 ≤ 0 then (if b 7 = 0 then p 0 else q 0) else 0
def sWishF (q n : Nat → Int32) : Int32 := if n 3 ≤ 0 then q 0 else 0
def drvF (p q : Nat → Int32) : Int32 := if p 1 = 0 then 2 else if q 1 = 0 then 2 else if p 1 = q 1 then 0 else if p 1 = 1 then 1 else -1
def chopF (b : Nat → Int32) (on : Int32) : Nat → Int32 := upd (upd b 6 on) 7 (if ¬ b 7 = 0 ∧ ¬ on = 0 then 1 else 0)
def goneF (b sv : Nat → Int32) (f : Nat) : Prop := if f = 0 then ¬ sv 2 ≤ absI (b 4) else if f = 2 then ¬ sv 4 / 2 < b 5 else True
def legsF (b p q n sv : Nat → Int32) : Nat → Int32 :=
  let p' := legF p (fWishF b p q n) (sv 0)
  let q' := legF q (sWishF q n) (sv 0)
  let b1 := if ¬ stF p (fWishF b p q n) (sv 0) = p 1 ∨ ¬ stF q (sWishF q n) (sv 0) = q 1 then upd b 8 (sv 1) else b
  upd (upd b1 9 (drvF p' q')) 10 (if drvF p' q' = 1 ∨ drvF p' q' = -1 then b 10 + 1 else 0)
def twz (c a : Int32) : Int32 := if c ≤ 0 then minI 0 (c + a) else maxI 0 (c - a)
def curF (b dv : Nat → Int32) : Int32 := maxI (-1000000) (minI 1000000 (if b 9 = 2 then twz (b 4) (dv 0 + dv 1) else twz (b 4 + dv 0 * b 9) (dv 1)))
def heatF (b : Nat → Int32) (cool : Int32) : Int32 := Int64.toInt32 (maxL 0 (minL 2000000000 (Int32.toInt64 (b 5) + Int32.toInt64 (absI (b 4)) * Int32.toInt64 (absI (b 4)) / 1000 - Int32.toInt64 cool)))
def lookF (b dv : Nat → Int32) : Nat → Int32 := if b 6 = 0 ∨ 0 < b 8 then b else if ¬ absI (b 4) < dv 2 then upd b 7 1 else if ¬ dv 2 - dv 3 < absI (b 4) then upd b 7 0 else b
def seenF (b dv sv : Nat → Int32) (f : Nat) : Prop := if f = 0 then b 8 = 0 ∧ ¬ absI (b 4) < sv 2 else if f = 1 then ¬ b 10 < sv 3 ∧ ¬ dv 0 ≤ absI (b 4) else ¬ b 5 < sv 4
set_option maxHeartbeats 4000000 in
set_option maxRecDepth 100000 in
theorem k_X5_size (l : Launch) (E : Ev) {I : SI} {L : SL} (B : Nat) (b : Nat → Int32) (hB : IsLd B) (e_b : I (B) = b) : CS l yX5_size wsX5_size ({ frames := 1, cells := 0, slots := 0, locals := 13 }) E [.ref (E.2.2.2 B)] I L (fun vv I' L' => vv = some (.int (absI (b 4))) ∧ I' = I ∧ L' = L) := by
  refine CS.of (cc := cX5_size) (maxL := 1) (ret := (some .int)) (by decide) rfl (Nat.le_of_ble_eq_true rfl) ?_
  intro pg en sg mg below meth cg ls S hr hlk hX G hl
  have S : CallFix pg mg cg cX5_size 1 sg _ wsX5_size RX5 := S
  have hl : lv_has ls 1 [(0, .ref (E.2.2.2 B))] := hl
  refine lv_aload_n S.1 S.2.1 dX5_size_0 rfl (lv_at hl 0 rfl) ?_
  refine s_get S hX G (i := B) (kd := 5) (a := b) (v := .int (b 4)) (C := RX5) (T := TX5) (N := 13) 4 (hB 0 (by decide)) e_b rfl rfl (by decide) rfl (fun _ h => (List.mem_cons_of_mem _ (List.mem_append_right _ h))) (by decide) (List.mem_of_getElem? (i := 1) rfl) (fun _ h => h) dX5_size_1 ?_
  refine va_mabs (rest := []) S.1 S.2.1 (S.2.2.1.trans hl.1.symm) S.2.2.2.1 (S.2.2.2.2 _ (List.mem_of_getElem? (i := 2) rfl)) (S.2.2.2.2 _ (List.mem_of_getElem? (i := 3) rfl)) (S.2.2.2.2 _ (List.mem_of_getElem? (i := 4) rfl)) (S.2.2.2.2 _ (List.mem_of_getElem? (i := 5) rfl)) (Nat.le_of_ble_eq_true rfl) (Nat.le_of_ble_eq_true rfl) (Nat.zero_le _) (Nat.zero_le _) dX5_size_4 ?_
  refine W.eq (g2 := F0 mg 7 ls [.int (absI (b 4))]) rfl ?_
  refine lv_topi (fun y_1 ey_1 => ?_)
  refine s_iret (x := y_1) S G hr hlk dX5_size_7 ?_
  exact ⟨(congrArg (fun q : Int32 => some (Value.int q)) (show y_1 = (absI (b 4)) by subst ey_1; (first | (simp []; done) | (clear S hX G hl; grind [])))), rfl, rfl⟩
set_option maxHeartbeats 4000000 in
set_option maxRecDepth 100000 in
theorem k_X5_switchings (l : Launch) (E : Ev) {I : SI} {L : SL} (B : Nat) (p : Nat → Int32) (q : Nat → Int32) (hB : IsLd B) (e_p : I (B+1) = p) (e_q : I (B+2) = q) : CS l yX5_switchings wsX5_switchings ({ frames := 0, cells := 0, slots := 0, locals := 0 }) E [.ref (E.2.2.2 B)] I L (fun vv I' L' => vv = some (.int (p 3 + q 3)) ∧ I' = I ∧ L' = L) := by
  refine CS.of (cc := cX5_switchings) (maxL := 1) (ret := (some .int)) (by decide) rfl (Nat.le_of_ble_eq_true rfl) ?_
  intro pg en sg mg below meth cg ls S hr hlk hX G hl
  have S : CallFix pg mg cg cX5_switchings 1 sg _ wsX5_switchings RX5 := S
  have hl : lv_has ls 1 [(0, .ref (E.2.2.2 B))] := hl
  refine lv_aload_n S.1 S.2.1 dX5_switchings_0 rfl (lv_at hl 0 rfl) ?_
  refine s_get S hX G (i := B) (kd := 5) (a := (I B)) (v := .ref (E.2.2.2 (B + 1))) (C := RX5) (T := TX5) (N := 13) 0 (hB 0 (by decide)) rfl rfl rfl (by decide) rfl (fun _ h => (List.mem_cons_of_mem _ (List.mem_append_left _ (List.mem_append_right _ h)))) (by decide) (List.mem_of_getElem? (i := 1) rfl) (fun _ h => h) dX5_switchings_1 ?_
  refine s_getN S hX G (i := (B + 1)) (kd := 4) (a := p) (v := .int (p 3)) (C := RX4) (T := TX4) (N := 7) 3 (hB 1 (by decide)) e_p rfl rfl (by decide) rfl (fun _ h => (List.mem_cons_of_mem _ (List.mem_append_right _ h))) (by decide) (List.mem_of_getElem? (i := 6) rfl) (fun _ h => h) dX5_switchings_4 ?_
  refine lv_aload_n S.1 S.2.1 dX5_switchings_7 rfl (lv_at hl 0 rfl) ?_
  refine s_get S hX G (i := B) (kd := 5) (a := (I B)) (v := .ref (E.2.2.2 (B + 2))) (C := RX5) (T := TX5) (N := 13) 1 (hB 0 (by decide)) rfl rfl rfl (by decide) rfl (fun _ h => (List.mem_cons_of_mem _ (List.mem_append_left _ (List.mem_append_right _ h)))) (by decide) (List.mem_of_getElem? (i := 2) rfl) (fun _ h => h) dX5_switchings_8 ?_
  refine s_getN S hX G (i := (B + 2)) (kd := 4) (a := q) (v := .int (q 3)) (C := RX4) (T := TX4) (N := 7) 3 (hB 2 (by decide)) e_q rfl rfl (by decide) rfl (fun _ h => (List.mem_cons_of_mem _ (List.mem_append_right _ h))) (by decide) (List.mem_of_getElem? (i := 6) rfl) (fun _ h => h) dX5_switchings_11 ?_
  refine s_iadd (v := ((p 3) + (q 3))) S dX5_switchings_14 rfl ?_
  refine s_iret (x := ((p 3) + (q 3))) S G hr hlk dX5_switchings_15 ?_
  exact ⟨(congrArg (fun q : Int32 => some (Value.int q)) (show ((p 3) + (q 3)) = (p 3 + q 3) by first | (simp []; done) | (clear S hX G hl; grind []))), rfl, rfl⟩
set_option maxHeartbeats 4000000 in
set_option maxRecDepth 100000 in
theorem k_X5_turnChopper (l : Launch) (E : Ev) {I : SI} {L : SL} (B : Nat) (on : Int32) (b : Nat → Int32) (hB : IsLd B) (e_b : I (B) = b) (g6 : isb (b 6)) (gon : isb on) : CS l yX5_turnChopper wsX5_turnChopper ({ frames := 0, cells := 0, slots := 0, locals := 0 }) E [.ref (E.2.2.2 B), .int on] I L (fun vv I' L' => vv = some (.int (b 6)) ∧ I' = (up I (B) (chopF b on)) ∧ L' = L) := by
  refine CS.of (cc := cX5_turnChopper) (maxL := 3) (ret := (some .boolean)) (by decide) rfl (Nat.le_of_ble_eq_true rfl) ?_
  intro pg en sg mg below meth cg ls S hr hlk hX G hl
  have S : CallFix pg mg cg cX5_turnChopper 3 sg _ wsX5_turnChopper RX5 := S
  have hl : lv_has ls 3 [(0, .ref (E.2.2.2 B)), (1, .int on)] := hl
  refine lv_aload_n S.1 S.2.1 dX5_turnChopper_0 rfl (lv_at hl 0 rfl) ?_
  refine s_get S hX G (i := B) (kd := 5) (a := b) (v := .int (b 6)) (C := RX5) (T := TX5) (N := 13) 6 (hB 0 (by decide)) e_b rfl rfl (by decide) rfl (fun _ h => (List.mem_cons_of_mem _ (List.mem_append_right _ h))) (by decide) (List.mem_of_getElem? (i := 1) rfl) (fun _ h => h) dX5_turnChopper_1 ?_
  refine lv_istore_n (lv' := [(2, .int (b 6)), (0, .ref (E.2.2.2 B)), (1, .int on)]) S.1 S.2.1 dX5_turnChopper_4 rfl hl (by decide) rfl (fun ls hl => ?_)
  refine lv_aload_n S.1 S.2.1 dX5_turnChopper_5 rfl (lv_at hl 1 rfl) ?_
  refine lv_iload_n S.1 S.2.1 dX5_turnChopper_6 rfl (lv_at hl 2 rfl) ?_
  refine s_put S hX G (i := B) (kd := 5) (a := b) (a' := (upd b 6 on)) (I' := (up I B (upd b 6 on))) (v := .int on) (ty := .boolean) (ty0 := tyX5) (C := RX5) (T := TX5) (N := 13) 6 (hB 0 (by decide)) e_b rfl rfl rfl (by decide) rfl (fun _ h => (List.mem_cons_of_mem _ (List.mem_append_right _ h))) tyX5_ok nmX5 (by decide) (List.mem_of_getElem? (i := 1) rfl) (fun _ h => h) rfl (by decide +kernel) (isb_nar gon) (isb_fit gon) (Nat.le_of_ble_eq_true rfl) dX5_turnChopper_7 (fun H locs G => ?_)
  refine lv_aload_n S.1 S.2.1 dX5_turnChopper_10 rfl (lv_at hl 1 rfl) ?_
  refine lv_aload_n S.1 S.2.1 dX5_turnChopper_11 rfl (lv_at hl 1 rfl) ?_
  refine s_get S hX G (i := B) (kd := 5) (a := (upd b 6 on)) (v := .int (b 7)) (C := RX5) (T := TX5) (N := 13) 7 (hB 0 (by decide)) up_eq rfl rfl (by decide) rfl (fun _ h => (List.mem_cons_of_mem _ (List.mem_append_right _ h))) (by decide) (List.mem_of_getElem? (i := 2) rfl) (fun _ h => h) dX5_turnChopper_12 ?_
  refine lv_if_eq (tgt := 26) S.1 S.2.1 dX5_turnChopper_15 (by decide) (fun c_1 => ?_) (fun c_1 => ?_)
  · refine lv_iconst (v := (0 : Int32)) S.1 S.2.1 dX5_turnChopper_26 (by decide) ?_
    refine s_put S hX G (i := B) (kd := 5) (a := (upd b 6 on)) (a' := (upd (upd b 6 on) 7 (0 : Int32))) (I' := (up I B (upd (upd b 6 on) 7 (0 : Int32)))) (v := .int (0 : Int32)) (ty := .boolean) (ty0 := tyX5) (C := RX5) (T := TX5) (N := 13) 7 (hB 0 (by decide)) up_eq rfl rfl (by rw [up_up]) (by decide) rfl (fun _ h => (List.mem_cons_of_mem _ (List.mem_append_right _ h))) tyX5_ok nmX5 (by decide) (List.mem_of_getElem? (i := 2) rfl) (fun _ h => h) rfl (by decide +kernel) (isb_nar (Or.inl rfl)) (isb_fit (Or.inl rfl)) (Nat.le_of_ble_eq_true rfl) dX5_turnChopper_27 (fun H locs G => ?_)
    refine lv_iload_n S.1 S.2.1 dX5_turnChopper_30 rfl (lv_at hl 0 rfl) ?_
    refine s_zret (x := (b 6)) S G hr hlk dX5_turnChopper_31 g6 ?_
    exact ⟨rfl, (st_eq1 (Eq.trans up_eq (show (upd (upd b 6 on) 7 (0 : Int32)) = (chopF b on) by first | (simp [chopF, c_1]; done) | (clear S hX G hl; grind [chopF]))) (fun _ g0 => (up_ne g0))), rfl⟩
  · refine lv_iload_n S.1 S.2.1 dX5_turnChopper_18 rfl (lv_at hl 2 rfl) ?_
    refine lv_if_eq (tgt := 26) S.1 S.2.1 dX5_turnChopper_19 (by decide) (fun c_2 => ?_) (fun c_2 => ?_)
    · refine lv_iconst (v := (0 : Int32)) S.1 S.2.1 dX5_turnChopper_26 (by decide) ?_
      refine s_put S hX G (i := B) (kd := 5) (a := (upd b 6 on)) (a' := (upd (upd b 6 on) 7 (0 : Int32))) (I' := (up I B (upd (upd b 6 on) 7 (0 : Int32)))) (v := .int (0 : Int32)) (ty := .boolean) (ty0 := tyX5) (C := RX5) (T := TX5) (N := 13) 7 (hB 0 (by decide)) up_eq rfl rfl (by rw [up_up]) (by decide) rfl (fun _ h => (List.mem_cons_of_mem _ (List.mem_append_right _ h))) tyX5_ok nmX5 (by decide) (List.mem_of_getElem? (i := 2) rfl) (fun _ h => h) rfl (by decide +kernel) (isb_nar (Or.inl rfl)) (isb_fit (Or.inl rfl)) (Nat.le_of_ble_eq_true rfl) dX5_turnChopper_27 (fun H locs G => ?_)
      refine lv_iload_n S.1 S.2.1 dX5_turnChopper_30 rfl (lv_at hl 0 rfl) ?_
      refine s_zret (x := (b 6)) S G hr hlk dX5_turnChopper_31 g6 ?_
      exact ⟨rfl, (st_eq1 (Eq.trans up_eq (show (upd (upd b 6 on) 7 (0 : Int32)) = (chopF b on) by first | (simp [chopF, c_1, c_2]; done) | (clear S hX G hl; grind [chopF]))) (fun _ g0 => (up_ne g0))), rfl⟩
    · refine lv_iconst (v := (1 : Int32)) S.1 S.2.1 dX5_turnChopper_22 (by decide) ?_
      refine lv_goto (tgt := 27) S.1 S.2.1 dX5_turnChopper_23 (by decide) ?_
      refine s_put S hX G (i := B) (kd := 5) (a := (upd b 6 on)) (a' := (upd (upd b 6 on) 7 (1 : Int32))) (I' := (up I B (upd (upd b 6 on) 7 (1 : Int32)))) (v := .int (1 : Int32)) (ty := .boolean) (ty0 := tyX5) (C := RX5) (T := TX5) (N := 13) 7 (hB 0 (by decide)) up_eq rfl rfl (by rw [up_up]) (by decide) rfl (fun _ h => (List.mem_cons_of_mem _ (List.mem_append_right _ h))) tyX5_ok nmX5 (by decide) (List.mem_of_getElem? (i := 2) rfl) (fun _ h => h) rfl (by decide +kernel) (isb_nar (Or.inr rfl)) (isb_fit (Or.inr rfl)) (Nat.le_of_ble_eq_true rfl) dX5_turnChopper_27 (fun H locs G => ?_)
      refine lv_iload_n S.1 S.2.1 dX5_turnChopper_30 rfl (lv_at hl 0 rfl) ?_
      refine s_zret (x := (b 6)) S G hr hlk dX5_turnChopper_31 g6 ?_
      exact ⟨rfl, (st_eq1 (Eq.trans up_eq (show (upd (upd b 6 on) 7 (1 : Int32)) = (chopF b on) by first | (simp [chopF, c_1, c_2]; done) | (clear S hX G hl; grind [chopF]))) (fun _ g0 => (up_ne g0))), rfl⟩
set_option maxHeartbeats 4000000 in
set_option maxRecDepth 100000 in
theorem k_X5_firstWish (l : Launch) (E : Ev) {I : SI} {L : SL} (B : Nat) (b : Nat → Int32) (p : Nat → Int32) (q : Nat → Int32) (n : Nat → Int32) (hB : IsLd B) (e_b : I (B) = b) (e_p : I (B+1) = p) (e_q : I (B+2) = q) (e_n : I (B+5) = n) : CS l yX5_firstWish wsX5_firstWish ({ frames := 0, cells := 0, slots := 0, locals := 0 }) E [.ref (E.2.2.2 B)] I L (fun vv I' L' => vv = some (.int (fWishF b p q n)) ∧ I' = I ∧ L' = L) := by
  refine CS.of (cc := cX5_firstWish) (maxL := 1) (ret := (some .int)) (by decide) rfl (Nat.le_of_ble_eq_true rfl) ?_
  intro pg en sg mg below meth cg ls S hr hlk hX G hl
  have S : CallFix pg mg cg cX5_firstWish 1 sg _ wsX5_firstWish RX5 := S
  have hl : lv_has ls 1 [(0, .ref (E.2.2.2 B))] := hl
  refine lv_aload_n S.1 S.2.1 dX5_firstWish_0 rfl (lv_at hl 0 rfl) ?_
  refine s_get S hX G (i := B) (kd := 5) (a := b) (v := .ref (E.2.2.2 (B + 5))) (C := RX5) (T := TX5) (N := 13) 3 (hB 0 (by decide)) e_b rfl rfl (by decide) rfl (fun _ h => (List.mem_cons_of_mem _ (List.mem_append_left _ (List.mem_append_left _ (List.mem_append_right _ h))))) (by decide) (List.mem_of_getElem? (i := 1) rfl) (fun _ h => h) dX5_firstWish_1 ?_
  refine s_getN S hX G (i := (B + 5)) (kd := 3) (a := n) (v := .int (n 3)) (C := RX3) (T := TX3) (N := 4) 3 (hB 5 (by decide)) e_n rfl rfl (by decide) rfl (fun _ h => (List.mem_cons_of_mem _ (List.mem_append_left _ (List.mem_append_right _ h)))) (by decide) (List.mem_of_getElem? (i := 12) rfl) (fun _ h => h) dX5_firstWish_4 ?_
  refine lv_if_le (tgt := 12) S.1 S.2.1 dX5_firstWish_7 (by decide) (fun c_1 => ?_) (fun c_1 => ?_)
  · refine lv_aload_n S.1 S.2.1 dX5_firstWish_12 rfl (lv_at hl 0 rfl) ?_
    refine s_get S hX G (i := B) (kd := 5) (a := b) (v := .int (b 7)) (C := RX5) (T := TX5) (N := 13) 7 (hB 0 (by decide)) e_b rfl rfl (by decide) rfl (fun _ h => (List.mem_cons_of_mem _ (List.mem_append_left _ (List.mem_append_left _ (List.mem_append_right _ h))))) (by decide) (List.mem_of_getElem? (i := 2) rfl) (fun _ h => h) dX5_firstWish_13 ?_
    refine lv_if_eq (tgt := 29) S.1 S.2.1 dX5_firstWish_16 (by decide) (fun c_2 => ?_) (fun c_2 => ?_)
    · refine lv_aload_n S.1 S.2.1 dX5_firstWish_29 rfl (lv_at hl 0 rfl) ?_
      refine s_get S hX G (i := B) (kd := 5) (a := b) (v := .ref (E.2.2.2 (B + 1))) (C := RX5) (T := TX5) (N := 13) 0 (hB 0 (by decide)) e_b rfl rfl (by decide) rfl (fun _ h => (List.mem_cons_of_mem _ (List.mem_append_left _ (List.mem_append_left _ (List.mem_append_right _ h))))) (by decide) (List.mem_of_getElem? (i := 4) rfl) (fun _ h => h) dX5_firstWish_30 ?_
      refine s_getN S hX G (i := (B + 1)) (kd := 4) (a := p) (v := .int (p 0)) (C := RX4) (T := TX4) (N := 7) 0 (hB 1 (by decide)) e_p rfl rfl (by decide) rfl (fun _ h => (List.mem_cons_of_mem _ (List.mem_append_right _ h))) (by decide) (List.mem_of_getElem? (i := 1) rfl) (fun _ h => h) dX5_firstWish_33 ?_
      refine s_iret (x := (p 0)) S G hr hlk dX5_firstWish_36 ?_
      exact ⟨(congrArg (fun q : Int32 => some (Value.int q)) (show (p 0) = (fWishF b p q n) by first | (simp [fWishF, c_1, c_2]; done) | (clear S hX G hl; grind [fWishF]))), rfl, rfl⟩
    · refine lv_aload_n S.1 S.2.1 dX5_firstWish_19 rfl (lv_at hl 0 rfl) ?_
      refine s_get S hX G (i := B) (kd := 5) (a := b) (v := .ref (E.2.2.2 (B + 2))) (C := RX5) (T := TX5) (N := 13) 1 (hB 0 (by decide)) e_b rfl rfl (by decide) rfl (fun _ h => (List.mem_cons_of_mem _ (List.mem_append_left _ (List.mem_append_left _ (List.mem_append_right _ h))))) (by decide) (List.mem_of_getElem? (i := 3) rfl) (fun _ h => h) dX5_firstWish_20 ?_
      refine s_getN S hX G (i := (B + 2)) (kd := 4) (a := q) (v := .int (q 0)) (C := RX4) (T := TX4) (N := 7) 0 (hB 2 (by decide)) e_q rfl rfl (by decide) rfl (fun _ h => (List.mem_cons_of_mem _ (List.mem_append_right _ h))) (by decide) (List.mem_of_getElem? (i := 1) rfl) (fun _ h => h) dX5_firstWish_23 ?_
      refine lv_goto (tgt := 36) S.1 S.2.1 dX5_firstWish_26 (by decide) ?_
      refine s_iret (x := (q 0)) S G hr hlk dX5_firstWish_36 ?_
      exact ⟨(congrArg (fun q : Int32 => some (Value.int q)) (show (q 0) = (fWishF b p q n) by first | (simp [fWishF, c_1, c_2]; done) | (clear S hX G hl; grind [fWishF]))), rfl, rfl⟩
  · refine lv_iconst (v := (0 : Int32)) S.1 S.2.1 dX5_firstWish_10 (by decide) ?_
    refine s_iret (x := (0 : Int32)) S G hr hlk dX5_firstWish_11 ?_
    exact ⟨(congrArg (fun q : Int32 => some (Value.int q)) (show (0 : Int32) = (fWishF b p q n) by first | (simp [fWishF, c_1]; done) | (clear S hX G hl; grind [fWishF]))), rfl, rfl⟩
set_option maxHeartbeats 4000000 in
set_option maxRecDepth 100000 in
theorem k_X5_secondWish (l : Launch) (E : Ev) {I : SI} {L : SL} (B : Nat) (q : Nat → Int32) (n : Nat → Int32) (hB : IsLd B) (e_q : I (B+2) = q) (e_n : I (B+5) = n) : CS l yX5_secondWish wsX5_secondWish ({ frames := 0, cells := 0, slots := 0, locals := 0 }) E [.ref (E.2.2.2 B)] I L (fun vv I' L' => vv = some (.int (sWishF q n)) ∧ I' = I ∧ L' = L) := by
  refine CS.of (cc := cX5_secondWish) (maxL := 1) (ret := (some .int)) (by decide) rfl (Nat.le_of_ble_eq_true rfl) ?_
  intro pg en sg mg below meth cg ls S hr hlk hX G hl
  have S : CallFix pg mg cg cX5_secondWish 1 sg _ wsX5_secondWish RX5 := S
  have hl : lv_has ls 1 [(0, .ref (E.2.2.2 B))] := hl
  refine lv_aload_n S.1 S.2.1 dX5_secondWish_0 rfl (lv_at hl 0 rfl) ?_
  refine s_get S hX G (i := B) (kd := 5) (a := (I B)) (v := .ref (E.2.2.2 (B + 5))) (C := RX5) (T := TX5) (N := 13) 3 (hB 0 (by decide)) rfl rfl rfl (by decide) rfl (fun _ h => (List.mem_cons_of_mem _ (List.mem_append_left _ (List.mem_append_left _ (List.mem_append_right _ h))))) (by decide) (List.mem_of_getElem? (i := 1) rfl) (fun _ h => h) dX5_secondWish_1 ?_
  refine s_getN S hX G (i := (B + 5)) (kd := 3) (a := n) (v := .int (n 3)) (C := RX3) (T := TX3) (N := 4) 3 (hB 5 (by decide)) e_n rfl rfl (by decide) rfl (fun _ h => (List.mem_cons_of_mem _ (List.mem_append_left _ (List.mem_append_right _ h)))) (by decide) (List.mem_of_getElem? (i := 12) rfl) (fun _ h => h) dX5_secondWish_4 ?_
  refine lv_if_le (tgt := 14) S.1 S.2.1 dX5_secondWish_7 (by decide) (fun c_1 => ?_) (fun c_1 => ?_)
  · refine lv_aload_n S.1 S.2.1 dX5_secondWish_14 rfl (lv_at hl 0 rfl) ?_
    refine s_get S hX G (i := B) (kd := 5) (a := (I B)) (v := .ref (E.2.2.2 (B + 2))) (C := RX5) (T := TX5) (N := 13) 1 (hB 0 (by decide)) rfl rfl rfl (by decide) rfl (fun _ h => (List.mem_cons_of_mem _ (List.mem_append_left _ (List.mem_append_left _ (List.mem_append_right _ h))))) (by decide) (List.mem_of_getElem? (i := 2) rfl) (fun _ h => h) dX5_secondWish_15 ?_
    refine s_getN S hX G (i := (B + 2)) (kd := 4) (a := q) (v := .int (q 0)) (C := RX4) (T := TX4) (N := 7) 0 (hB 2 (by decide)) e_q rfl rfl (by decide) rfl (fun _ h => (List.mem_cons_of_mem _ (List.mem_append_right _ h))) (by decide) (List.mem_of_getElem? (i := 1) rfl) (fun _ h => h) dX5_secondWish_18 ?_
    refine s_iret (x := (q 0)) S G hr hlk dX5_secondWish_21 ?_
    exact ⟨(congrArg (fun q : Int32 => some (Value.int q)) (show (q 0) = (sWishF q n) by first | (simp [sWishF, c_1]; done) | (clear S hX G hl; grind [sWishF]))), rfl, rfl⟩
  · refine lv_iconst (v := (0 : Int32)) S.1 S.2.1 dX5_secondWish_10 (by decide) ?_
    refine lv_goto (tgt := 21) S.1 S.2.1 dX5_secondWish_11 (by decide) ?_
    refine s_iret (x := (0 : Int32)) S G hr hlk dX5_secondWish_21 ?_
    exact ⟨(congrArg (fun q : Int32 => some (Value.int q)) (show (0 : Int32) = (sWishF q n) by first | (simp [sWishF, c_1]; done) | (clear S hX G hl; grind [sWishF]))), rfl, rfl⟩
set_option maxHeartbeats 4000000 in
set_option maxRecDepth 100000 in
theorem k_X5_driveOfStates (l : Launch) (E : Ev) {I : SI} {L : SL} (B : Nat) (p : Nat → Int32) (q : Nat → Int32) (hB : IsLd B) (e_p : I (B+1) = p) (e_q : I (B+2) = q) : CS l yX5_driveOfStates wsX5_driveOfStates ({ frames := 0, cells := 0, slots := 0, locals := 0 }) E [.ref (E.2.2.2 B)] I L (fun vv I' L' => vv = some (.int (drvF p q)) ∧ I' = I ∧ L' = L) := by
  refine CS.of (cc := cX5_driveOfStates) (maxL := 1) (ret := (some .int)) (by decide) rfl (Nat.le_of_ble_eq_true rfl) ?_
  intro pg en sg mg below meth cg ls S hr hlk hX G hl
  have S : CallFix pg mg cg cX5_driveOfStates 1 sg _ wsX5_driveOfStates RX5 := S
  have hl : lv_has ls 1 [(0, .ref (E.2.2.2 B))] := hl
  refine lv_aload_n S.1 S.2.1 dX5_driveOfStates_0 rfl (lv_at hl 0 rfl) ?_
  refine s_get S hX G (i := B) (kd := 5) (a := (I B)) (v := .ref (E.2.2.2 (B + 1))) (C := RX5) (T := TX5) (N := 13) 0 (hB 0 (by decide)) rfl rfl rfl (by decide) rfl (fun _ h => (List.mem_cons_of_mem _ (List.mem_append_left _ (List.mem_append_right _ h)))) (by decide) (List.mem_of_getElem? (i := 1) rfl) (fun _ h => h) dX5_driveOfStates_1 ?_
  refine s_getN S hX G (i := (B + 1)) (kd := 4) (a := p) (v := .int (p 1)) (C := RX4) (T := TX4) (N := 7) 1 (hB 1 (by decide)) e_p rfl rfl (by decide) rfl (fun _ h => (List.mem_cons_of_mem _ (List.mem_append_right _ h))) (by decide) (List.mem_of_getElem? (i := 4) rfl) (fun _ h => h) dX5_driveOfStates_4 ?_
  refine lv_if_eq (tgt := 20) S.1 S.2.1 dX5_driveOfStates_7 (by decide) (fun c_1 => ?_) (fun c_1 => ?_)
  · refine lv_iconst (v := (2 : Int32)) S.1 S.2.1 dX5_driveOfStates_20 (by decide) ?_
    refine s_iret (x := (2 : Int32)) S G hr hlk dX5_driveOfStates_21 ?_
    exact ⟨(congrArg (fun q : Int32 => some (Value.int q)) (show (2 : Int32) = (drvF p q) by first | (simp [drvF, c_1]; done) | (clear S hX G hl; grind [drvF]))), rfl, rfl⟩
  · refine lv_aload_n S.1 S.2.1 dX5_driveOfStates_10 rfl (lv_at hl 0 rfl) ?_
    refine s_get S hX G (i := B) (kd := 5) (a := (I B)) (v := .ref (E.2.2.2 (B + 2))) (C := RX5) (T := TX5) (N := 13) 1 (hB 0 (by decide)) rfl rfl rfl (by decide) rfl (fun _ h => (List.mem_cons_of_mem _ (List.mem_append_left _ (List.mem_append_right _ h)))) (by decide) (List.mem_of_getElem? (i := 2) rfl) (fun _ h => h) dX5_driveOfStates_11 ?_
    refine s_getN S hX G (i := (B + 2)) (kd := 4) (a := q) (v := .int (q 1)) (C := RX4) (T := TX4) (N := 7) 1 (hB 2 (by decide)) e_q rfl rfl (by decide) rfl (fun _ h => (List.mem_cons_of_mem _ (List.mem_append_right _ h))) (by decide) (List.mem_of_getElem? (i := 4) rfl) (fun _ h => h) dX5_driveOfStates_14 ?_
    refine lv_if_ne (tgt := 22) S.1 S.2.1 dX5_driveOfStates_17 (by decide) (fun c_2 => ?_) (fun c_2 => ?_)
    · refine lv_aload_n S.1 S.2.1 dX5_driveOfStates_22 rfl (lv_at hl 0 rfl) ?_
      refine s_get S hX G (i := B) (kd := 5) (a := (I B)) (v := .ref (E.2.2.2 (B + 1))) (C := RX5) (T := TX5) (N := 13) 0 (hB 0 (by decide)) rfl rfl rfl (by decide) rfl (fun _ h => (List.mem_cons_of_mem _ (List.mem_append_left _ (List.mem_append_right _ h)))) (by decide) (List.mem_of_getElem? (i := 1) rfl) (fun _ h => h) dX5_driveOfStates_23 ?_
      refine s_getN S hX G (i := (B + 1)) (kd := 4) (a := p) (v := .int (p 1)) (C := RX4) (T := TX4) (N := 7) 1 (hB 1 (by decide)) e_p rfl rfl (by decide) rfl (fun _ h => (List.mem_cons_of_mem _ (List.mem_append_right _ h))) (by decide) (List.mem_of_getElem? (i := 4) rfl) (fun _ h => h) dX5_driveOfStates_26 ?_
      refine lv_aload_n S.1 S.2.1 dX5_driveOfStates_29 rfl (lv_at hl 0 rfl) ?_
      refine s_get S hX G (i := B) (kd := 5) (a := (I B)) (v := .ref (E.2.2.2 (B + 2))) (C := RX5) (T := TX5) (N := 13) 1 (hB 0 (by decide)) rfl rfl rfl (by decide) rfl (fun _ h => (List.mem_cons_of_mem _ (List.mem_append_left _ (List.mem_append_right _ h)))) (by decide) (List.mem_of_getElem? (i := 2) rfl) (fun _ h => h) dX5_driveOfStates_30 ?_
      refine s_getN S hX G (i := (B + 2)) (kd := 4) (a := q) (v := .int (q 1)) (C := RX4) (T := TX4) (N := 7) 1 (hB 2 (by decide)) e_q rfl rfl (by decide) rfl (fun _ h => (List.mem_cons_of_mem _ (List.mem_append_right _ h))) (by decide) (List.mem_of_getElem? (i := 4) rfl) (fun _ h => h) dX5_driveOfStates_33 ?_
      refine lv_icmp_ne (tgt := 41) S.1 S.2.1 dX5_driveOfStates_36 (by decide) (fun c_3 => ?_) (fun c_3 => ?_)
      · refine lv_aload_n S.1 S.2.1 dX5_driveOfStates_41 rfl (lv_at hl 0 rfl) ?_
        refine s_get S hX G (i := B) (kd := 5) (a := (I B)) (v := .ref (E.2.2.2 (B + 1))) (C := RX5) (T := TX5) (N := 13) 0 (hB 0 (by decide)) rfl rfl rfl (by decide) rfl (fun _ h => (List.mem_cons_of_mem _ (List.mem_append_left _ (List.mem_append_right _ h)))) (by decide) (List.mem_of_getElem? (i := 1) rfl) (fun _ h => h) dX5_driveOfStates_42 ?_
        refine s_getN S hX G (i := (B + 1)) (kd := 4) (a := p) (v := .int (p 1)) (C := RX4) (T := TX4) (N := 7) 1 (hB 1 (by decide)) e_p rfl rfl (by decide) rfl (fun _ h => (List.mem_cons_of_mem _ (List.mem_append_right _ h))) (by decide) (List.mem_of_getElem? (i := 4) rfl) (fun _ h => h) dX5_driveOfStates_45 ?_
        refine lv_iconst (v := (1 : Int32)) S.1 S.2.1 dX5_driveOfStates_48 (by decide) ?_
        refine lv_icmp_ne (tgt := 56) S.1 S.2.1 dX5_driveOfStates_49 (by decide) (fun c_4 => ?_) (fun c_4 => ?_)
        · refine lv_iconst (v := (-1 : Int32)) S.1 S.2.1 dX5_driveOfStates_56 (by decide) ?_
          refine s_iret (x := (-1 : Int32)) S G hr hlk dX5_driveOfStates_57 ?_
          exact ⟨(congrArg (fun q : Int32 => some (Value.int q)) (show (-1 : Int32) = (drvF p q) by first | (simp [drvF, c_1, c_2, c_3, c_4]; done) | (clear S hX G hl; grind [drvF]))), rfl, rfl⟩
        · refine lv_iconst (v := (1 : Int32)) S.1 S.2.1 dX5_driveOfStates_52 (by decide) ?_
          refine lv_goto (tgt := 57) S.1 S.2.1 dX5_driveOfStates_53 (by decide) ?_
          refine s_iret (x := (1 : Int32)) S G hr hlk dX5_driveOfStates_57 ?_
          exact ⟨(congrArg (fun q : Int32 => some (Value.int q)) (show (1 : Int32) = (drvF p q) by first | (simp [drvF, c_1, c_2, c_3, c_4]; done) | (clear S hX G hl; grind [drvF]))), rfl, rfl⟩
      · refine lv_iconst (v := (0 : Int32)) S.1 S.2.1 dX5_driveOfStates_39 (by decide) ?_
        refine s_iret (x := (0 : Int32)) S G hr hlk dX5_driveOfStates_40 ?_
        exact ⟨(congrArg (fun q : Int32 => some (Value.int q)) (show (0 : Int32) = (drvF p q) by first | (simp [drvF, c_1, c_2, c_3]; done) | (clear S hX G hl; grind [drvF]))), rfl, rfl⟩
    · refine lv_iconst (v := (2 : Int32)) S.1 S.2.1 dX5_driveOfStates_20 (by decide) ?_
      refine s_iret (x := (2 : Int32)) S G hr hlk dX5_driveOfStates_21 ?_
      exact ⟨(congrArg (fun q : Int32 => some (Value.int q)) (show (2 : Int32) = (drvF p q) by first | (simp [drvF, c_1, c_2]; done) | (clear S hX G hl; grind [drvF]))), rfl, rfl⟩
set_option maxHeartbeats 4000000 in
set_option maxRecDepth 100000 in
theorem k_X5_towardZero (l : Launch) (E : Ev) {I : SI} {L : SL} (c : Int32) (a : Int32) : CS l yX5_towardZero wsX5_towardZero ({ frames := 1, cells := 0, slots := 0, locals := 13 }) E [.int c, .int a] I L (fun vv I' L' => vv = some (.int (twz c a)) ∧ I' = I ∧ L' = L) := by
  refine CS.of (cc := cX5_towardZero) (maxL := 2) (ret := (some .int)) (by decide) rfl (Nat.le_of_ble_eq_true rfl) ?_
  intro pg en sg mg below meth cg ls S hr hlk hX G hl
  have S : CallFix pg mg cg cX5_towardZero 2 sg _ wsX5_towardZero RX5 := S
  have hl : lv_has ls 2 [(0, .int c), (1, .int a)] := hl
  refine lv_iload_n S.1 S.2.1 dX5_towardZero_0 rfl (lv_at hl 0 rfl) ?_
  refine lv_if_le (tgt := 12) S.1 S.2.1 dX5_towardZero_1 (by decide) (fun c_1 => ?_) (fun c_1 => ?_)
  · refine lv_iconst (v := (0 : Int32)) S.1 S.2.1 dX5_towardZero_12 (by decide) ?_
    refine lv_iload_n S.1 S.2.1 dX5_towardZero_13 rfl (lv_at hl 0 rfl) ?_
    refine lv_iload_n S.1 S.2.1 dX5_towardZero_14 rfl (lv_at hl 1 rfl) ?_
    refine s_iadd (v := (c + a)) S dX5_towardZero_15 rfl ?_
    refine va_mmin (rest := []) S.1 S.2.1 (S.2.2.1.trans hl.1.symm) S.2.2.2.1 (S.2.2.2.2 _ (List.mem_of_getElem? (i := 5) rfl)) (S.2.2.2.2 _ (List.mem_of_getElem? (i := 6) rfl)) (S.2.2.2.2 _ (List.mem_of_getElem? (i := 3) rfl)) (S.2.2.2.2 _ (List.mem_of_getElem? (i := 7) rfl)) (Nat.le_of_ble_eq_true rfl) (Nat.le_of_ble_eq_true rfl) (Nat.zero_le _) (Nat.zero_le _) dX5_towardZero_16 ?_
    refine W.eq (g2 := F0 mg 19 ls [.int (minI (0 : Int32) (c + a))]) rfl ?_
    refine lv_topi (fun y_2 ey_2 => ?_)
    refine s_iret (x := y_2) S G hr hlk dX5_towardZero_19 ?_
    exact ⟨(congrArg (fun q : Int32 => some (Value.int q)) (show y_2 = (twz c a) by subst ey_2; (first | (simp [twz, c_1]; done) | (clear S hX G hl; grind [twz])))), rfl, rfl⟩
  · refine lv_iconst (v := (0 : Int32)) S.1 S.2.1 dX5_towardZero_4 (by decide) ?_
    refine lv_iload_n S.1 S.2.1 dX5_towardZero_5 rfl (lv_at hl 0 rfl) ?_
    refine lv_iload_n S.1 S.2.1 dX5_towardZero_6 rfl (lv_at hl 1 rfl) ?_
    refine s_isub (v := (c - a)) S dX5_towardZero_7 rfl ?_
    refine va_mmax (rest := []) S.1 S.2.1 (S.2.2.1.trans hl.1.symm) S.2.2.2.1 (S.2.2.2.2 _ (List.mem_of_getElem? (i := 1) rfl)) (S.2.2.2.2 _ (List.mem_of_getElem? (i := 2) rfl)) (S.2.2.2.2 _ (List.mem_of_getElem? (i := 3) rfl)) (S.2.2.2.2 _ (List.mem_of_getElem? (i := 4) rfl)) (Nat.le_of_ble_eq_true rfl) (Nat.le_of_ble_eq_true rfl) (Nat.zero_le _) (Nat.zero_le _) dX5_towardZero_8 ?_
    refine W.eq (g2 := F0 mg 11 ls [.int (maxI (0 : Int32) (c - a))]) rfl ?_
    refine lv_topi (fun y_3 ey_3 => ?_)
    refine s_iret (x := y_3) S G hr hlk dX5_towardZero_11 ?_
    exact ⟨(congrArg (fun q : Int32 => some (Value.int q)) (show y_3 = (twz c a) by subst ey_3; (first | (simp [twz, c_1]; done) | (clear S hX G hl; grind [twz])))), rfl, rfl⟩
set_option maxHeartbeats 4000000 in
set_option maxRecDepth 100000 in
theorem k_X5_isCauseGone_0 (l : Launch) (E : Ev) {I : SI} {L : SL} (B : Nat) (D : Nat) (b : Nat → Int32) (sv : Nat → Int32) (hB : IsLd B) (hD : sh (D) = 1) (hD_1 : sh (D+1) = 20) (e_b : I (B) = b) (e_sv : I (D+1) = sv) : CS l yX5_isCauseGone wsX5_isCauseGone ({ frames := 2, cells := 0, slots := 0, locals := 42 }) E [.ref (E.2.2.2 B), .int (0 : Int32), .ref (E.2.2.2 D)] I L (fun vv I' L' => vv = some (.int (if ¬ sv 2 ≤ absI (b 4) then 1 else 0)) ∧ I' = I ∧ L' = L) := by
  refine CS.of (cc := cX5_isCauseGone) (maxL := 3) (ret := (some .boolean)) (by decide) rfl (Nat.le_of_ble_eq_true rfl) ?_
  intro pg en sg mg below meth cg ls S hr hlk hX G hl
  have S : CallFix pg mg cg cX5_isCauseGone 3 sg _ wsX5_isCauseGone RX5 := S
  have hl : lv_has ls 3 [(0, .ref (E.2.2.2 B)), (1, .int (0 : Int32)), (2, .ref (E.2.2.2 D))] := hl
  refine lv_iload_n S.1 S.2.1 dX5_isCauseGone_0 rfl (lv_at hl 1 rfl) ?_
  refine lv_lookup (off := 27) (tgt := 28) S.1 S.2.1 dX5_isCauseGone_1 (by decide) (by decide) (by decide) ?_
  refine lv_aload_n S.1 S.2.1 dX5_isCauseGone_28 rfl (lv_at hl 0 rfl) ?_
  refine s_callV (C := RX5) (As := []) (rest := []) (i := B) (kd := 5) S hX G (k_X5_size l E B b hB e_b) (cwV (bytes := cX5_size) (maxL := 1) (ret := (some .int)) 0 S.2.2.2.2 gX5_isCauseGone_X5_size rfl rfl rfl (by decide +kernel) ⟨Nat.le_of_ble_eq_true rfl, Nat.le_of_ble_eq_true rfl⟩) (hB 0 (by decide)) rfl rfl rfl (by decide) rfl hl.1 rfl (Nat.le_of_ble_eq_true rfl) ⟨Nat.zero_le _, Nat.zero_le _⟩ dX5_isCauseGone_29 (fun v I1 L1 H locs hR G => ?_)
  obtain ⟨hv, hI, hL⟩ := hR
  subst hv
  have G : GS E I L sg H locs := G.same hI hL
  refine W.eq (g2 := F0 mg 32 ls [.int (absI (b 4))]) rfl ?_
  refine lv_topi (fun y_1 ey_1 => ?_)
  refine lv_aload_n S.1 S.2.1 dX5_isCauseGone_32 rfl (lv_at hl 2 rfl) ?_
  refine lv_iconst (v := (2 : Int32)) S.1 S.2.1 dX5_isCauseGone_33 (by decide) ?_
  refine s_callV (C := RX1) (As := [.int (2 : Int32)]) (rest := [.int y_1]) (i := D) (kd := 1) S hX G (k_X1_value6_2 l E D sv hD hD_1 e_sv) (cwV (bytes := cX1_value) (maxL := 2) (ret := (some .int)) 1 S.2.2.2.2 gX5_isCauseGone_X1_value rfl rfl rfl (by decide +kernel) ⟨Nat.le_of_ble_eq_true rfl, Nat.le_of_ble_eq_true rfl⟩) hD rfl rfl rfl (by decide) rfl hl.1 rfl (Nat.le_of_ble_eq_true rfl) ⟨Nat.zero_le _, Nat.zero_le _⟩ dX5_isCauseGone_34 (fun v I1 L1 H locs hR G => ?_)
  obtain ⟨hv, hI, hL⟩ := hR
  subst hv
  have G : GS E I L sg H locs := G.same hI hL
  refine W.eq (g2 := F0 mg 37 ls [.int (sv 2), .int y_1]) rfl ?_
  refine lv_icmp_ge (tgt := 44) S.1 S.2.1 dX5_isCauseGone_37 (by decide) (fun c_2 => ?_) (fun c_2 => ?_)
  · refine lv_iconst (v := (0 : Int32)) S.1 S.2.1 dX5_isCauseGone_44 (by decide) ?_
    refine s_zret (x := (0 : Int32)) S G hr hlk dX5_isCauseGone_45 (Or.inl rfl) ?_
    exact ⟨(congrArg (fun q : Int32 => some (Value.int q)) (show (0 : Int32) = (if ¬ sv 2 ≤ absI (b 4) then 1 else 0) by subst ey_1; (first | (simp [c_2]; done) | (clear S hX G hl; grind [])))), rfl, rfl⟩
  · refine lv_iconst (v := (1 : Int32)) S.1 S.2.1 dX5_isCauseGone_40 (by decide) ?_
    refine lv_goto (tgt := 45) S.1 S.2.1 dX5_isCauseGone_41 (by decide) ?_
    refine s_zret (x := (1 : Int32)) S G hr hlk dX5_isCauseGone_45 (Or.inr rfl) ?_
    exact ⟨(congrArg (fun q : Int32 => some (Value.int q)) (show (1 : Int32) = (if ¬ sv 2 ≤ absI (b 4) then 1 else 0) by subst ey_1; (first | (simp [c_2]; done) | (clear S hX G hl; grind [])))), rfl, rfl⟩
set_option maxHeartbeats 4000000 in
set_option maxRecDepth 100000 in
theorem k_X5_isClearable_0 (l : Launch) (E : Ev) {I : SI} {L : SL} (B : Nat) (D : Nat) (b : Nat → Int32) (t : Nat → Int32) (u : Nat → Int32) (sv : Nat → Int32) (hB : IsLd B) (hD : sh (D) = 1) (hD_1 : sh (D+1) = 20) (e_b : I (B) = b) (e_t : I (B+6) = t) (e_u : I (B+7) = u) (e_sv : I (D+1) = sv) : CS l yX5_isClearable wsX5_isClearable ({ frames := 4, cells := 0, slots := 0, locals := 88 }) E [.ref (E.2.2.2 B), .int (0 : Int32), .ref (E.2.2.2 D)] I L (fun vv I' L' => vv = some (.int (if ¬ t 0 = 0 ∧ plcF t u 0 = 0 ∧ ¬ sv 2 ≤ absI (b 4) then 1 else 0)) ∧ I' = I ∧ L' = L) := by
  refine CS.of (cc := cX5_isClearable) (maxL := 3) (ret := (some .boolean)) (by decide) rfl (Nat.le_of_ble_eq_true rfl) ?_
  intro pg en sg mg below meth cg ls S hr hlk hX G hl
  have S : CallFix pg mg cg cX5_isClearable 3 sg _ wsX5_isClearable RX5 := S
  have hl : lv_has ls 3 [(0, .ref (E.2.2.2 B)), (1, .int (0 : Int32)), (2, .ref (E.2.2.2 D))] := hl
  refine lv_aload_n S.1 S.2.1 dX5_isClearable_0 rfl (lv_at hl 0 rfl) ?_
  refine s_get S hX G (i := B) (kd := 5) (a := b) (v := .ref (E.2.2.2 (B + 5))) (C := RX5) (T := TX5) (N := 13) 3 (hB 0 (by decide)) e_b rfl rfl (by decide) rfl (fun _ h => (List.mem_cons_of_mem _ (List.mem_append_left _ (List.mem_append_left _ (List.mem_append_right _ h))))) (by decide) (List.mem_of_getElem? (i := 1) rfl) (fun _ h => h) dX5_isClearable_1 ?_
  refine lv_iload_n S.1 S.2.1 dX5_isClearable_4 rfl (lv_at hl 1 rfl) ?_
  refine s_callV (C := RX3) (As := [.int (0 : Int32)]) (rest := []) (i := (B + 5)) (kd := 3) S hX G (k_X3_isLatched_0 l E (B + 5) t (hB 5 (by decide)) (hB 6 (by decide)) (hB 7 (by decide)) (hB 8 (by decide)) e_t) (cwV (bytes := cX3_isLatched) (maxL := 2) (ret := (some .boolean)) 1 S.2.2.2.2 gX5_isClearable_X3_isLatched rfl rfl rfl (by decide +kernel) ⟨Nat.le_of_ble_eq_true rfl, Nat.le_of_ble_eq_true rfl⟩) (hB 5 (by decide)) rfl rfl rfl (by decide) rfl hl.1 rfl (Nat.le_of_ble_eq_true rfl) ⟨Nat.zero_le _, Nat.zero_le _⟩ dX5_isClearable_5 (fun v I1 L1 H locs hR G => ?_)
  obtain ⟨hv, hI, hL⟩ := hR
  subst hv
  have G : GS E I L sg H locs := G.same hI hL
  refine W.eq (g2 := F0 mg 8 ls [.int (if ¬ t 0 = 0 then 1 else 0)]) rfl ?_
  refine s_if_eq_b (P := ¬ t 0 = 0) (tgt := 35) S dX5_isClearable_8 (by decide) (fun c_1 => ?_) (fun c_1 => ?_)
  · refine lv_iconst (v := (0 : Int32)) S.1 S.2.1 dX5_isClearable_35 (by decide) ?_
    refine s_zret (x := (0 : Int32)) S G hr hlk dX5_isClearable_36 (Or.inl rfl) ?_
    exact ⟨(congrArg (fun q : Int32 => some (Value.int q)) (show (0 : Int32) = (if ¬ t 0 = 0 ∧ plcF t u 0 = 0 ∧ ¬ sv 2 ≤ absI (b 4) then 1 else 0) by first | (simp [c_1]; done) | (clear S hX G hl; grind []))), rfl, rfl⟩
  · refine lv_aload_n S.1 S.2.1 dX5_isClearable_11 rfl (lv_at hl 0 rfl) ?_
    refine s_get S hX G (i := B) (kd := 5) (a := b) (v := .ref (E.2.2.2 (B + 5))) (C := RX5) (T := TX5) (N := 13) 3 (hB 0 (by decide)) e_b rfl rfl (by decide) rfl (fun _ h => (List.mem_cons_of_mem _ (List.mem_append_left _ (List.mem_append_left _ (List.mem_append_right _ h))))) (by decide) (List.mem_of_getElem? (i := 1) rfl) (fun _ h => h) dX5_isClearable_12 ?_
    refine lv_iload_n S.1 S.2.1 dX5_isClearable_15 rfl (lv_at hl 1 rfl) ?_
    refine s_callV (C := RX3) (As := [.int (0 : Int32)]) (rest := []) (i := (B + 5)) (kd := 3) S hX G (k_X3_placeOf_0 l E (B + 5) t u (hB 5 (by decide)) (hB 6 (by decide)) (hB 7 (by decide)) (hB 8 (by decide)) e_t e_u) (cwV (bytes := cX3_placeOf) (maxL := 6) (ret := (some .int)) 1 S.2.2.2.2 gX5_isClearable_X3_placeOf rfl rfl rfl (by decide +kernel) ⟨Nat.le_of_ble_eq_true rfl, Nat.le_of_ble_eq_true rfl⟩) (hB 5 (by decide)) rfl rfl rfl (by decide) rfl hl.1 rfl (Nat.le_of_ble_eq_true rfl) ⟨Nat.zero_le _, Nat.zero_le _⟩ dX5_isClearable_16 (fun v I1 L1 H locs hR G => ?_)
    obtain ⟨hv, hI, hL⟩ := hR
    subst hv
    have G : GS E I L sg H locs := G.same hI hL
    refine W.eq (g2 := F0 mg 19 ls [.int (plcF t u 0)]) rfl ?_
    refine lv_topi (fun y_2 ey_2 => ?_)
    refine lv_if_ne (tgt := 35) S.1 S.2.1 dX5_isClearable_19 (by decide) (fun c_3 => ?_) (fun c_3 => ?_)
    · refine lv_iconst (v := (0 : Int32)) S.1 S.2.1 dX5_isClearable_35 (by decide) ?_
      refine s_zret (x := (0 : Int32)) S G hr hlk dX5_isClearable_36 (Or.inl rfl) ?_
      exact ⟨(congrArg (fun q : Int32 => some (Value.int q)) (show (0 : Int32) = (if ¬ t 0 = 0 ∧ plcF t u 0 = 0 ∧ ¬ sv 2 ≤ absI (b 4) then 1 else 0) by subst ey_2; (first | (simp [c_1, c_3]; done) | (clear S hX G hl; grind [])))), rfl, rfl⟩
    · refine lv_aload_n S.1 S.2.1 dX5_isClearable_22 rfl (lv_at hl 0 rfl) ?_
      refine lv_iload_n S.1 S.2.1 dX5_isClearable_23 rfl (lv_at hl 1 rfl) ?_
      refine lv_aload_n S.1 S.2.1 dX5_isClearable_24 rfl (lv_at hl 2 rfl) ?_
      refine s_callV (C := RX5) (As := [.int (0 : Int32), .ref (E.2.2.2 D)]) (rest := []) (i := B) (kd := 5) S hX G (k_X5_isCauseGone_0 l E B D b sv hB hD hD_1 e_b e_sv) (cwV (bytes := cX5_isCauseGone) (maxL := 3) (ret := (some .boolean)) 2 S.2.2.2.2 gX5_isClearable_X5_isCauseGone rfl rfl rfl (by decide +kernel) ⟨Nat.le_of_ble_eq_true rfl, Nat.le_of_ble_eq_true rfl⟩) (hB 0 (by decide)) rfl rfl rfl (by decide) rfl hl.1 rfl (Nat.le_of_ble_eq_true rfl) ⟨Nat.zero_le _, Nat.zero_le _⟩ dX5_isClearable_25 (fun v I1 L1 H locs hR G => ?_)
      obtain ⟨hv, hI, hL⟩ := hR
      subst hv
      have G : GS E I L sg H locs := G.same hI hL
      refine W.eq (g2 := F0 mg 28 ls [.int (if ¬ sv 2 ≤ absI (b 4) then 1 else 0)]) rfl ?_
      refine s_if_eq_b (P := ¬ sv 2 ≤ absI (b 4)) (tgt := 35) S dX5_isClearable_28 (by decide) (fun c_4 => ?_) (fun c_4 => ?_)
      · refine lv_iconst (v := (0 : Int32)) S.1 S.2.1 dX5_isClearable_35 (by decide) ?_
        refine s_zret (x := (0 : Int32)) S G hr hlk dX5_isClearable_36 (Or.inl rfl) ?_
        exact ⟨(congrArg (fun q : Int32 => some (Value.int q)) (show (0 : Int32) = (if ¬ t 0 = 0 ∧ plcF t u 0 = 0 ∧ ¬ sv 2 ≤ absI (b 4) then 1 else 0) by subst ey_2; (first | (simp [c_1, c_3, c_4]; done) | (clear S hX G hl; grind [])))), rfl, rfl⟩
      · refine lv_iconst (v := (1 : Int32)) S.1 S.2.1 dX5_isClearable_31 (by decide) ?_
        refine lv_goto (tgt := 36) S.1 S.2.1 dX5_isClearable_32 (by decide) ?_
        refine s_zret (x := (1 : Int32)) S G hr hlk dX5_isClearable_36 (Or.inr rfl) ?_
        exact ⟨(congrArg (fun q : Int32 => some (Value.int q)) (show (1 : Int32) = (if ¬ t 0 = 0 ∧ plcF t u 0 = 0 ∧ ¬ sv 2 ≤ absI (b 4) then 1 else 0) by subst ey_2; (first | (simp [c_1, c_3, c_4]; done) | (clear S hX G hl; grind [])))), rfl, rfl⟩
set_option maxHeartbeats 4000000 in
set_option maxRecDepth 100000 in
theorem k_X5_isSeen_0 (l : Launch) (E : Ev) {I : SI} {L : SL} (B : Nat) (D : Nat) (b : Nat → Int32) (dv : Nat → Int32) (sv : Nat → Int32) (hB : IsLd B) (hD : sh (D) = 1) (hD_1 : sh (D+1) = 20) (e_b : I (B) = b) (e_dv : I (B+4) = dv) (e_sv : I (D+1) = sv) : CS l yX5_isSeen wsX5_isSeen ({ frames := 2, cells := 0, slots := 0, locals := 42 }) E [.ref (E.2.2.2 B), .int (0 : Int32), .ref (E.2.2.2 D)] I L (fun vv I' L' => vv = some (.int (if b 8 = 0 ∧ ¬ absI (b 4) < sv 2 then 1 else 0)) ∧ I' = I ∧ L' = L) := by
  refine CS.of (cc := cX5_isSeen) (maxL := 3) (ret := (some .boolean)) (by decide) rfl (Nat.le_of_ble_eq_true rfl) ?_
  intro pg en sg mg below meth cg ls S hr hlk hX G hl
  have S : CallFix pg mg cg cX5_isSeen 3 sg _ wsX5_isSeen RX5 := S
  have hl : lv_has ls 3 [(0, .ref (E.2.2.2 B)), (1, .int (0 : Int32)), (2, .ref (E.2.2.2 D))] := hl
  refine lv_iload_n S.1 S.2.1 dX5_isSeen_0 rfl (lv_at hl 1 rfl) ?_
  refine lv_lookup (off := 27) (tgt := 28) S.1 S.2.1 dX5_isSeen_1 (by decide) (by decide) (by decide) ?_
  refine lv_aload_n S.1 S.2.1 dX5_isSeen_28 rfl (lv_at hl 0 rfl) ?_
  refine s_get S hX G (i := B) (kd := 5) (a := b) (v := .int (b 8)) (C := RX5) (T := TX5) (N := 13) 8 (hB 0 (by decide)) e_b rfl rfl (by decide) rfl (fun _ h => (List.mem_cons_of_mem _ (List.mem_append_left _ (List.mem_append_right _ h)))) (by decide) (List.mem_of_getElem? (i := 1) rfl) (fun _ h => h) dX5_isSeen_29 ?_
  refine lv_if_ne (tgt := 51) S.1 S.2.1 dX5_isSeen_32 (by decide) (fun c_1 => ?_) (fun c_1 => ?_)
  · refine lv_iconst (v := (0 : Int32)) S.1 S.2.1 dX5_isSeen_51 (by decide) ?_
    refine s_zret (x := (0 : Int32)) S G hr hlk dX5_isSeen_52 (Or.inl rfl) ?_
    exact ⟨(congrArg (fun q : Int32 => some (Value.int q)) (show (0 : Int32) = (if b 8 = 0 ∧ ¬ absI (b 4) < sv 2 then 1 else 0) by first | (simp [c_1]; done) | (clear S hX G hl; grind []))), rfl, rfl⟩
  · refine lv_aload_n S.1 S.2.1 dX5_isSeen_35 rfl (lv_at hl 0 rfl) ?_
    refine s_callV (C := RX5) (As := []) (rest := []) (i := B) (kd := 5) S hX G (k_X5_size l E B b hB e_b) (cwV (bytes := cX5_size) (maxL := 1) (ret := (some .int)) 0 S.2.2.2.2 gX5_isSeen_X5_size rfl rfl rfl (by decide +kernel) ⟨Nat.le_of_ble_eq_true rfl, Nat.le_of_ble_eq_true rfl⟩) (hB 0 (by decide)) rfl rfl rfl (by decide) rfl hl.1 rfl (Nat.le_of_ble_eq_true rfl) ⟨Nat.zero_le _, Nat.zero_le _⟩ dX5_isSeen_36 (fun v I1 L1 H locs hR G => ?_)
    obtain ⟨hv, hI, hL⟩ := hR
    subst hv
    have G : GS E I L sg H locs := G.same hI hL
    refine W.eq (g2 := F0 mg 39 ls [.int (absI (b 4))]) rfl ?_
    refine lv_topi (fun y_2 ey_2 => ?_)
    refine lv_aload_n S.1 S.2.1 dX5_isSeen_39 rfl (lv_at hl 2 rfl) ?_
    refine lv_iconst (v := (2 : Int32)) S.1 S.2.1 dX5_isSeen_40 (by decide) ?_
    refine s_callV (C := RX1) (As := [.int (2 : Int32)]) (rest := [.int y_2]) (i := D) (kd := 1) S hX G (k_X1_value6_2 l E D sv hD hD_1 e_sv) (cwV (bytes := cX1_value) (maxL := 2) (ret := (some .int)) 1 S.2.2.2.2 gX5_isSeen_X1_value rfl rfl rfl (by decide +kernel) ⟨Nat.le_of_ble_eq_true rfl, Nat.le_of_ble_eq_true rfl⟩) hD rfl rfl rfl (by decide) rfl hl.1 rfl (Nat.le_of_ble_eq_true rfl) ⟨Nat.zero_le _, Nat.zero_le _⟩ dX5_isSeen_41 (fun v I1 L1 H locs hR G => ?_)
    obtain ⟨hv, hI, hL⟩ := hR
    subst hv
    have G : GS E I L sg H locs := G.same hI hL
    refine W.eq (g2 := F0 mg 44 ls [.int (sv 2), .int y_2]) rfl ?_
    refine lv_icmp_lt (tgt := 51) S.1 S.2.1 dX5_isSeen_44 (by decide) (fun c_3 => ?_) (fun c_3 => ?_)
    · refine lv_iconst (v := (0 : Int32)) S.1 S.2.1 dX5_isSeen_51 (by decide) ?_
      refine s_zret (x := (0 : Int32)) S G hr hlk dX5_isSeen_52 (Or.inl rfl) ?_
      exact ⟨(congrArg (fun q : Int32 => some (Value.int q)) (show (0 : Int32) = (if b 8 = 0 ∧ ¬ absI (b 4) < sv 2 then 1 else 0) by subst ey_2; (first | (simp [c_1, c_3]; done) | (clear S hX G hl; grind [])))), rfl, rfl⟩
    · refine lv_iconst (v := (1 : Int32)) S.1 S.2.1 dX5_isSeen_47 (by decide) ?_
      refine lv_goto (tgt := 52) S.1 S.2.1 dX5_isSeen_48 (by decide) ?_
      refine s_zret (x := (1 : Int32)) S G hr hlk dX5_isSeen_52 (Or.inr rfl) ?_
      exact ⟨(congrArg (fun q : Int32 => some (Value.int q)) (show (1 : Int32) = (if b 8 = 0 ∧ ¬ absI (b 4) < sv 2 then 1 else 0) by subst ey_2; (first | (simp [c_1, c_3]; done) | (clear S hX G hl; grind [])))), rfl, rfl⟩
set_option maxHeartbeats 4000000 in
set_option maxRecDepth 100000 in
theorem k_X5_isCauseGone_1 (l : Launch) (E : Ev) {I : SI} {L : SL} (B : Nat) (D : Nat) (b : Nat → Int32) (sv : Nat → Int32) (hB : IsLd B) (hD : sh (D) = 1) (hD_1 : sh (D+1) = 20) (e_b : I (B) = b) (e_sv : I (D+1) = sv) : CS l yX5_isCauseGone wsX5_isCauseGone ({ frames := 0, cells := 0, slots := 0, locals := 0 }) E [.ref (E.2.2.2 B), .int (1 : Int32), .ref (E.2.2.2 D)] I L (fun vv I' L' => vv = some (.int (1 : Int32)) ∧ I' = I ∧ L' = L) := by
  refine CS.of (cc := cX5_isCauseGone) (maxL := 3) (ret := (some .boolean)) (by decide) rfl (Nat.le_of_ble_eq_true rfl) ?_
  intro pg en sg mg below meth cg ls S hr hlk hX G hl
  have S : CallFix pg mg cg cX5_isCauseGone 3 sg _ wsX5_isCauseGone RX5 := S
  have hl : lv_has ls 3 [(0, .ref (E.2.2.2 B)), (1, .int (1 : Int32)), (2, .ref (E.2.2.2 D))] := hl
  refine lv_iload_n S.1 S.2.1 dX5_isCauseGone_0 rfl (lv_at hl 1 rfl) ?_
  refine lv_lookup (off := 65) (tgt := 66) S.1 S.2.1 dX5_isCauseGone_1 (by decide) (by decide) (by decide) ?_
  refine lv_iconst (v := (1 : Int32)) S.1 S.2.1 dX5_isCauseGone_66 (by decide) ?_
  refine s_zret (x := (1 : Int32)) S G hr hlk dX5_isCauseGone_67 (Or.inr rfl) ?_
  exact ⟨rfl, rfl, rfl⟩
set_option maxHeartbeats 4000000 in
set_option maxRecDepth 100000 in
theorem k_X5_isClearable_1 (l : Launch) (E : Ev) {I : SI} {L : SL} (B : Nat) (D : Nat) (b : Nat → Int32) (t : Nat → Int32) (u : Nat → Int32) (sv : Nat → Int32) (hB : IsLd B) (hD : sh (D) = 1) (hD_1 : sh (D+1) = 20) (e_b : I (B) = b) (e_t : I (B+6) = t) (e_u : I (B+7) = u) (e_sv : I (D+1) = sv) : CS l yX5_isClearable wsX5_isClearable ({ frames := 4, cells := 0, slots := 0, locals := 88 }) E [.ref (E.2.2.2 B), .int (1 : Int32), .ref (E.2.2.2 D)] I L (fun vv I' L' => vv = some (.int (if ¬ t 1 = 0 ∧ plcF t u 1 = 0 then 1 else 0)) ∧ I' = I ∧ L' = L) := by
  refine CS.of (cc := cX5_isClearable) (maxL := 3) (ret := (some .boolean)) (by decide) rfl (Nat.le_of_ble_eq_true rfl) ?_
  intro pg en sg mg below meth cg ls S hr hlk hX G hl
  have S : CallFix pg mg cg cX5_isClearable 3 sg _ wsX5_isClearable RX5 := S
  have hl : lv_has ls 3 [(0, .ref (E.2.2.2 B)), (1, .int (1 : Int32)), (2, .ref (E.2.2.2 D))] := hl
  refine lv_aload_n S.1 S.2.1 dX5_isClearable_0 rfl (lv_at hl 0 rfl) ?_
  refine s_get S hX G (i := B) (kd := 5) (a := b) (v := .ref (E.2.2.2 (B + 5))) (C := RX5) (T := TX5) (N := 13) 3 (hB 0 (by decide)) e_b rfl rfl (by decide) rfl (fun _ h => (List.mem_cons_of_mem _ (List.mem_append_left _ (List.mem_append_left _ (List.mem_append_right _ h))))) (by decide) (List.mem_of_getElem? (i := 1) rfl) (fun _ h => h) dX5_isClearable_1 ?_
  refine lv_iload_n S.1 S.2.1 dX5_isClearable_4 rfl (lv_at hl 1 rfl) ?_
  refine s_callV (C := RX3) (As := [.int (1 : Int32)]) (rest := []) (i := (B + 5)) (kd := 3) S hX G (k_X3_isLatched_1 l E (B + 5) t (hB 5 (by decide)) (hB 6 (by decide)) (hB 7 (by decide)) (hB 8 (by decide)) e_t) (cwV (bytes := cX3_isLatched) (maxL := 2) (ret := (some .boolean)) 1 S.2.2.2.2 gX5_isClearable_X3_isLatched rfl rfl rfl (by decide +kernel) ⟨Nat.le_of_ble_eq_true rfl, Nat.le_of_ble_eq_true rfl⟩) (hB 5 (by decide)) rfl rfl rfl (by decide) rfl hl.1 rfl (Nat.le_of_ble_eq_true rfl) ⟨Nat.zero_le _, Nat.zero_le _⟩ dX5_isClearable_5 (fun v I1 L1 H locs hR G => ?_)
  obtain ⟨hv, hI, hL⟩ := hR
  subst hv
  have G : GS E I L sg H locs := G.same hI hL
  refine W.eq (g2 := F0 mg 8 ls [.int (if ¬ t 1 = 0 then 1 else 0)]) rfl ?_
  refine s_if_eq_b (P := ¬ t 1 = 0) (tgt := 35) S dX5_isClearable_8 (by decide) (fun c_1 => ?_) (fun c_1 => ?_)
  · refine lv_iconst (v := (0 : Int32)) S.1 S.2.1 dX5_isClearable_35 (by decide) ?_
    refine s_zret (x := (0 : Int32)) S G hr hlk dX5_isClearable_36 (Or.inl rfl) ?_
    exact ⟨(congrArg (fun q : Int32 => some (Value.int q)) (show (0 : Int32) = (if ¬ t 1 = 0 ∧ plcF t u 1 = 0 then 1 else 0) by first | (simp [c_1]; done) | (clear S hX G hl; grind []))), rfl, rfl⟩
  · refine lv_aload_n S.1 S.2.1 dX5_isClearable_11 rfl (lv_at hl 0 rfl) ?_
    refine s_get S hX G (i := B) (kd := 5) (a := b) (v := .ref (E.2.2.2 (B + 5))) (C := RX5) (T := TX5) (N := 13) 3 (hB 0 (by decide)) e_b rfl rfl (by decide) rfl (fun _ h => (List.mem_cons_of_mem _ (List.mem_append_left _ (List.mem_append_left _ (List.mem_append_right _ h))))) (by decide) (List.mem_of_getElem? (i := 1) rfl) (fun _ h => h) dX5_isClearable_12 ?_
    refine lv_iload_n S.1 S.2.1 dX5_isClearable_15 rfl (lv_at hl 1 rfl) ?_
    refine s_callV (C := RX3) (As := [.int (1 : Int32)]) (rest := []) (i := (B + 5)) (kd := 3) S hX G (k_X3_placeOf_1 l E (B + 5) t u (hB 5 (by decide)) (hB 6 (by decide)) (hB 7 (by decide)) (hB 8 (by decide)) e_t e_u) (cwV (bytes := cX3_placeOf) (maxL := 6) (ret := (some .int)) 1 S.2.2.2.2 gX5_isClearable_X3_placeOf rfl rfl rfl (by decide +kernel) ⟨Nat.le_of_ble_eq_true rfl, Nat.le_of_ble_eq_true rfl⟩) (hB 5 (by decide)) rfl rfl rfl (by decide) rfl hl.1 rfl (Nat.le_of_ble_eq_true rfl) ⟨Nat.zero_le _, Nat.zero_le _⟩ dX5_isClearable_16 (fun v I1 L1 H locs hR G => ?_)
    obtain ⟨hv, hI, hL⟩ := hR
    subst hv
    have G : GS E I L sg H locs := G.same hI hL
    refine W.eq (g2 := F0 mg 19 ls [.int (plcF t u 1)]) rfl ?_
    refine lv_topi (fun y_2 ey_2 => ?_)
    refine lv_if_ne (tgt := 35) S.1 S.2.1 dX5_isClearable_19 (by decide) (fun c_3 => ?_) (fun c_3 => ?_)
    · refine lv_iconst (v := (0 : Int32)) S.1 S.2.1 dX5_isClearable_35 (by decide) ?_
      refine s_zret (x := (0 : Int32)) S G hr hlk dX5_isClearable_36 (Or.inl rfl) ?_
      exact ⟨(congrArg (fun q : Int32 => some (Value.int q)) (show (0 : Int32) = (if ¬ t 1 = 0 ∧ plcF t u 1 = 0 then 1 else 0) by subst ey_2; (first | (simp [c_1, c_3]; done) | (clear S hX G hl; grind [])))), rfl, rfl⟩
    · refine lv_aload_n S.1 S.2.1 dX5_isClearable_22 rfl (lv_at hl 0 rfl) ?_
      refine lv_iload_n S.1 S.2.1 dX5_isClearable_23 rfl (lv_at hl 1 rfl) ?_
      refine lv_aload_n S.1 S.2.1 dX5_isClearable_24 rfl (lv_at hl 2 rfl) ?_
      refine s_callV (C := RX5) (As := [.int (1 : Int32), .ref (E.2.2.2 D)]) (rest := []) (i := B) (kd := 5) S hX G (k_X5_isCauseGone_1 l E B D b sv hB hD hD_1 e_b e_sv) (cwV (bytes := cX5_isCauseGone) (maxL := 3) (ret := (some .boolean)) 2 S.2.2.2.2 gX5_isClearable_X5_isCauseGone rfl rfl rfl (by decide +kernel) ⟨Nat.le_of_ble_eq_true rfl, Nat.le_of_ble_eq_true rfl⟩) (hB 0 (by decide)) rfl rfl rfl (by decide) rfl hl.1 rfl (Nat.le_of_ble_eq_true rfl) ⟨Nat.zero_le _, Nat.zero_le _⟩ dX5_isClearable_25 (fun v I1 L1 H locs hR G => ?_)
      obtain ⟨hv, hI, hL⟩ := hR
      subst hv
      have G : GS E I L sg H locs := G.same hI hL
      refine W.eq (g2 := F0 mg 28 ls [.int (1 : Int32)]) rfl ?_
      refine lv_if_eq (tgt := 35) S.1 S.2.1 dX5_isClearable_28 (by decide) (fun h => absurd h (by decide)) (fun _ => ?_)
      refine lv_iconst (v := (1 : Int32)) S.1 S.2.1 dX5_isClearable_31 (by decide) ?_
      refine lv_goto (tgt := 36) S.1 S.2.1 dX5_isClearable_32 (by decide) ?_
      refine s_zret (x := (1 : Int32)) S G hr hlk dX5_isClearable_36 (Or.inr rfl) ?_
      exact ⟨(congrArg (fun q : Int32 => some (Value.int q)) (show (1 : Int32) = (if ¬ t 1 = 0 ∧ plcF t u 1 = 0 then 1 else 0) by subst ey_2; (first | (simp [c_1, c_3]; done) | (clear S hX G hl; grind [])))), rfl, rfl⟩
set_option maxHeartbeats 4000000 in
set_option maxRecDepth 100000 in
theorem k_X5_isSeen_1 (l : Launch) (E : Ev) {I : SI} {L : SL} (B : Nat) (D : Nat) (b : Nat → Int32) (dv : Nat → Int32) (sv : Nat → Int32) (hB : IsLd B) (hD : sh (D) = 1) (hD_1 : sh (D+1) = 20) (e_b : I (B) = b) (e_dv : I (B+4) = dv) (e_sv : I (D+1) = sv) : CS l yX5_isSeen wsX5_isSeen ({ frames := 2, cells := 0, slots := 0, locals := 42 }) E [.ref (E.2.2.2 B), .int (1 : Int32), .ref (E.2.2.2 D)] I L (fun vv I' L' => vv = some (.int (if ¬ b 10 < sv 3 ∧ ¬ dv 0 ≤ absI (b 4) then 1 else 0)) ∧ I' = I ∧ L' = L) := by
  refine CS.of (cc := cX5_isSeen) (maxL := 3) (ret := (some .boolean)) (by decide) rfl (Nat.le_of_ble_eq_true rfl) ?_
  intro pg en sg mg below meth cg ls S hr hlk hX G hl
  have S : CallFix pg mg cg cX5_isSeen 3 sg _ wsX5_isSeen RX5 := S
  have hl : lv_has ls 3 [(0, .ref (E.2.2.2 B)), (1, .int (1 : Int32)), (2, .ref (E.2.2.2 D))] := hl
  refine lv_iload_n S.1 S.2.1 dX5_isSeen_0 rfl (lv_at hl 1 rfl) ?_
  refine lv_lookup (off := 52) (tgt := 53) S.1 S.2.1 dX5_isSeen_1 (by decide) (by decide) (by decide) ?_
  refine lv_aload_n S.1 S.2.1 dX5_isSeen_53 rfl (lv_at hl 0 rfl) ?_
  refine s_get S hX G (i := B) (kd := 5) (a := b) (v := .int (b 10)) (C := RX5) (T := TX5) (N := 13) 10 (hB 0 (by decide)) e_b rfl rfl (by decide) rfl (fun _ h => (List.mem_cons_of_mem _ (List.mem_append_left _ (List.mem_append_right _ h)))) (by decide) (List.mem_of_getElem? (i := 2) rfl) (fun _ h => h) dX5_isSeen_54 ?_
  refine lv_aload_n S.1 S.2.1 dX5_isSeen_57 rfl (lv_at hl 2 rfl) ?_
  refine lv_iconst (v := (3 : Int32)) S.1 S.2.1 dX5_isSeen_58 (by decide) ?_
  refine s_callV (C := RX1) (As := [.int (3 : Int32)]) (rest := [.int (b 10)]) (i := D) (kd := 1) S hX G (k_X1_value6_3 l E D sv hD hD_1 e_sv) (cwV (bytes := cX1_value) (maxL := 2) (ret := (some .int)) 1 S.2.2.2.2 gX5_isSeen_X1_value rfl rfl rfl (by decide +kernel) ⟨Nat.le_of_ble_eq_true rfl, Nat.le_of_ble_eq_true rfl⟩) hD rfl rfl rfl (by decide) rfl hl.1 rfl (Nat.le_of_ble_eq_true rfl) ⟨Nat.zero_le _, Nat.zero_le _⟩ dX5_isSeen_59 (fun v I1 L1 H locs hR G => ?_)
  obtain ⟨hv, hI, hL⟩ := hR
  subst hv
  have G : GS E I L sg H locs := G.same hI hL
  refine W.eq (g2 := F0 mg 62 ls [.int (sv 3), .int (b 10)]) rfl ?_
  refine lv_icmp_lt (tgt := 84) S.1 S.2.1 dX5_isSeen_62 (by decide) (fun c_1 => ?_) (fun c_1 => ?_)
  · refine lv_iconst (v := (0 : Int32)) S.1 S.2.1 dX5_isSeen_84 (by decide) ?_
    refine s_zret (x := (0 : Int32)) S G hr hlk dX5_isSeen_85 (Or.inl rfl) ?_
    exact ⟨(congrArg (fun q : Int32 => some (Value.int q)) (show (0 : Int32) = (if ¬ b 10 < sv 3 ∧ ¬ dv 0 ≤ absI (b 4) then 1 else 0) by first | (simp [c_1]; done) | (clear S hX G hl; grind []))), rfl, rfl⟩
  · refine lv_aload_n S.1 S.2.1 dX5_isSeen_65 rfl (lv_at hl 0 rfl) ?_
    refine s_callV (C := RX5) (As := []) (rest := []) (i := B) (kd := 5) S hX G (k_X5_size l E B b hB e_b) (cwV (bytes := cX5_size) (maxL := 1) (ret := (some .int)) 0 S.2.2.2.2 gX5_isSeen_X5_size rfl rfl rfl (by decide +kernel) ⟨Nat.le_of_ble_eq_true rfl, Nat.le_of_ble_eq_true rfl⟩) (hB 0 (by decide)) rfl rfl rfl (by decide) rfl hl.1 rfl (Nat.le_of_ble_eq_true rfl) ⟨Nat.zero_le _, Nat.zero_le _⟩ dX5_isSeen_66 (fun v I1 L1 H locs hR G => ?_)
    obtain ⟨hv, hI, hL⟩ := hR
    subst hv
    have G : GS E I L sg H locs := G.same hI hL
    refine W.eq (g2 := F0 mg 69 ls [.int (absI (b 4))]) rfl ?_
    refine lv_topi (fun y_2 ey_2 => ?_)
    refine lv_aload_n S.1 S.2.1 dX5_isSeen_69 rfl (lv_at hl 0 rfl) ?_
    refine s_get S hX G (i := B) (kd := 5) (a := b) (v := .ref (E.2.2.2 (B + 3))) (C := RX5) (T := TX5) (N := 13) 2 (hB 0 (by decide)) e_b rfl rfl (by decide) rfl (fun _ h => (List.mem_cons_of_mem _ (List.mem_append_left _ (List.mem_append_right _ h)))) (by decide) (List.mem_of_getElem? (i := 3) rfl) (fun _ h => h) dX5_isSeen_70 ?_
    refine lv_iconst (v := (0 : Int32)) S.1 S.2.1 dX5_isSeen_73 (by decide) ?_
    refine s_callV (C := RX1) (As := [.int (0 : Int32)]) (rest := [.int y_2]) (i := (B + 3)) (kd := 1) S hX G (k_X1_value4_0 l E (B + 3) dv (hB 3 (by decide)) (hB 4 (by decide)) e_dv) (cwV (bytes := cX1_value) (maxL := 2) (ret := (some .int)) 1 S.2.2.2.2 gX5_isSeen_X1_value rfl rfl rfl (by decide +kernel) ⟨Nat.le_of_ble_eq_true rfl, Nat.le_of_ble_eq_true rfl⟩) (hB 3 (by decide)) rfl rfl rfl (by decide) rfl hl.1 rfl (Nat.le_of_ble_eq_true rfl) ⟨Nat.zero_le _, Nat.zero_le _⟩ dX5_isSeen_74 (fun v I1 L1 H locs hR G => ?_)
    obtain ⟨hv, hI, hL⟩ := hR
    subst hv
    have G : GS E I L sg H locs := G.same hI hL
    refine W.eq (g2 := F0 mg 77 ls [.int (dv 0), .int y_2]) rfl ?_
    refine lv_icmp_ge (tgt := 84) S.1 S.2.1 dX5_isSeen_77 (by decide) (fun c_3 => ?_) (fun c_3 => ?_)
    · refine lv_iconst (v := (0 : Int32)) S.1 S.2.1 dX5_isSeen_84 (by decide) ?_
      refine s_zret (x := (0 : Int32)) S G hr hlk dX5_isSeen_85 (Or.inl rfl) ?_
      exact ⟨(congrArg (fun q : Int32 => some (Value.int q)) (show (0 : Int32) = (if ¬ b 10 < sv 3 ∧ ¬ dv 0 ≤ absI (b 4) then 1 else 0) by subst ey_2; (first | (simp [c_1, c_3]; done) | (clear S hX G hl; grind [])))), rfl, rfl⟩
    · refine lv_iconst (v := (1 : Int32)) S.1 S.2.1 dX5_isSeen_80 (by decide) ?_
      refine lv_goto (tgt := 85) S.1 S.2.1 dX5_isSeen_81 (by decide) ?_
      refine s_zret (x := (1 : Int32)) S G hr hlk dX5_isSeen_85 (Or.inr rfl) ?_
      exact ⟨(congrArg (fun q : Int32 => some (Value.int q)) (show (1 : Int32) = (if ¬ b 10 < sv 3 ∧ ¬ dv 0 ≤ absI (b 4) then 1 else 0) by subst ey_2; (first | (simp [c_1, c_3]; done) | (clear S hX G hl; grind [])))), rfl, rfl⟩
set_option maxHeartbeats 4000000 in
set_option maxRecDepth 100000 in
theorem k_X5_isCauseGone_2 (l : Launch) (E : Ev) {I : SI} {L : SL} (B : Nat) (D : Nat) (b : Nat → Int32) (sv : Nat → Int32) (hB : IsLd B) (hD : sh (D) = 1) (hD_1 : sh (D+1) = 20) (e_b : I (B) = b) (e_sv : I (D+1) = sv) : CS l yX5_isCauseGone wsX5_isCauseGone ({ frames := 2, cells := 0, slots := 0, locals := 42 }) E [.ref (E.2.2.2 B), .int (2 : Int32), .ref (E.2.2.2 D)] I L (fun vv I' L' => vv = some (.int (if ¬ sv 4 / 2 < b 5 then 1 else 0)) ∧ I' = I ∧ L' = L) := by
  refine CS.of (cc := cX5_isCauseGone) (maxL := 3) (ret := (some .boolean)) (by decide) rfl (Nat.le_of_ble_eq_true rfl) ?_
  intro pg en sg mg below meth cg ls S hr hlk hX G hl
  have S : CallFix pg mg cg cX5_isCauseGone 3 sg _ wsX5_isCauseGone RX5 := S
  have hl : lv_has ls 3 [(0, .ref (E.2.2.2 B)), (1, .int (2 : Int32)), (2, .ref (E.2.2.2 D))] := hl
  refine lv_iload_n S.1 S.2.1 dX5_isCauseGone_0 rfl (lv_at hl 1 rfl) ?_
  refine lv_lookup (off := 45) (tgt := 46) S.1 S.2.1 dX5_isCauseGone_1 (by decide) (by decide) (by decide) ?_
  refine lv_aload_n S.1 S.2.1 dX5_isCauseGone_46 rfl (lv_at hl 0 rfl) ?_
  refine s_get S hX G (i := B) (kd := 5) (a := b) (v := .int (b 5)) (C := RX5) (T := TX5) (N := 13) 5 (hB 0 (by decide)) e_b rfl rfl (by decide) rfl (fun _ h => (List.mem_cons_of_mem _ (List.mem_append_left _ (List.mem_append_right _ h)))) (by decide) (List.mem_of_getElem? (i := 1) rfl) (fun _ h => h) dX5_isCauseGone_47 ?_
  refine lv_aload_n S.1 S.2.1 dX5_isCauseGone_50 rfl (lv_at hl 2 rfl) ?_
  refine lv_iconst (v := (4 : Int32)) S.1 S.2.1 dX5_isCauseGone_51 (by decide) ?_
  refine s_callV (C := RX1) (As := [.int (4 : Int32)]) (rest := [.int (b 5)]) (i := D) (kd := 1) S hX G (k_X1_value6_4 l E D sv hD hD_1 e_sv) (cwV (bytes := cX1_value) (maxL := 2) (ret := (some .int)) 1 S.2.2.2.2 gX5_isCauseGone_X1_value rfl rfl rfl (by decide +kernel) ⟨Nat.le_of_ble_eq_true rfl, Nat.le_of_ble_eq_true rfl⟩) hD rfl rfl rfl (by decide) rfl hl.1 rfl (Nat.le_of_ble_eq_true rfl) ⟨Nat.zero_le _, Nat.zero_le _⟩ dX5_isCauseGone_52 (fun v I1 L1 H locs hR G => ?_)
  obtain ⟨hv, hI, hL⟩ := hR
  subst hv
  have G : GS E I L sg H locs := G.same hI hL
  refine W.eq (g2 := F0 mg 55 ls [.int (sv 4), .int (b 5)]) rfl ?_
  refine lv_iconst (v := (2 : Int32)) S.1 S.2.1 dX5_isCauseGone_55 (by decide) ?_
  refine s_idiv (v := ((sv 4) / (2 : Int32))) S dX5_isCauseGone_56 (by decide) rfl ?_
  refine lv_icmp_gt (tgt := 64) S.1 S.2.1 dX5_isCauseGone_57 (by decide) (fun c_1 => ?_) (fun c_1 => ?_)
  · refine lv_iconst (v := (0 : Int32)) S.1 S.2.1 dX5_isCauseGone_64 (by decide) ?_
    refine s_zret (x := (0 : Int32)) S G hr hlk dX5_isCauseGone_65 (Or.inl rfl) ?_
    exact ⟨(congrArg (fun q : Int32 => some (Value.int q)) (show (0 : Int32) = (if ¬ sv 4 / 2 < b 5 then 1 else 0) by first | (simp [c_1]; done) | (clear S hX G hl; grind []))), rfl, rfl⟩
  · refine lv_iconst (v := (1 : Int32)) S.1 S.2.1 dX5_isCauseGone_60 (by decide) ?_
    refine lv_goto (tgt := 65) S.1 S.2.1 dX5_isCauseGone_61 (by decide) ?_
    refine s_zret (x := (1 : Int32)) S G hr hlk dX5_isCauseGone_65 (Or.inr rfl) ?_
    exact ⟨(congrArg (fun q : Int32 => some (Value.int q)) (show (1 : Int32) = (if ¬ sv 4 / 2 < b 5 then 1 else 0) by first | (simp [c_1]; done) | (clear S hX G hl; grind []))), rfl, rfl⟩
set_option maxHeartbeats 4000000 in
set_option maxRecDepth 100000 in
theorem k_X5_isClearable_2 (l : Launch) (E : Ev) {I : SI} {L : SL} (B : Nat) (D : Nat) (b : Nat → Int32) (t : Nat → Int32) (u : Nat → Int32) (sv : Nat → Int32) (hB : IsLd B) (hD : sh (D) = 1) (hD_1 : sh (D+1) = 20) (e_b : I (B) = b) (e_t : I (B+6) = t) (e_u : I (B+7) = u) (e_sv : I (D+1) = sv) : CS l yX5_isClearable wsX5_isClearable ({ frames := 4, cells := 0, slots := 0, locals := 88 }) E [.ref (E.2.2.2 B), .int (2 : Int32), .ref (E.2.2.2 D)] I L (fun vv I' L' => vv = some (.int (if ¬ t 2 = 0 ∧ plcF t u 2 = 0 ∧ ¬ sv 4 / 2 < b 5 then 1 else 0)) ∧ I' = I ∧ L' = L) := by
  refine CS.of (cc := cX5_isClearable) (maxL := 3) (ret := (some .boolean)) (by decide) rfl (Nat.le_of_ble_eq_true rfl) ?_
  intro pg en sg mg below meth cg ls S hr hlk hX G hl
  have S : CallFix pg mg cg cX5_isClearable 3 sg _ wsX5_isClearable RX5 := S
  have hl : lv_has ls 3 [(0, .ref (E.2.2.2 B)), (1, .int (2 : Int32)), (2, .ref (E.2.2.2 D))] := hl
  refine lv_aload_n S.1 S.2.1 dX5_isClearable_0 rfl (lv_at hl 0 rfl) ?_
  refine s_get S hX G (i := B) (kd := 5) (a := b) (v := .ref (E.2.2.2 (B + 5))) (C := RX5) (T := TX5) (N := 13) 3 (hB 0 (by decide)) e_b rfl rfl (by decide) rfl (fun _ h => (List.mem_cons_of_mem _ (List.mem_append_left _ (List.mem_append_left _ (List.mem_append_right _ h))))) (by decide) (List.mem_of_getElem? (i := 1) rfl) (fun _ h => h) dX5_isClearable_1 ?_
  refine lv_iload_n S.1 S.2.1 dX5_isClearable_4 rfl (lv_at hl 1 rfl) ?_
  refine s_callV (C := RX3) (As := [.int (2 : Int32)]) (rest := []) (i := (B + 5)) (kd := 3) S hX G (k_X3_isLatched_2 l E (B + 5) t (hB 5 (by decide)) (hB 6 (by decide)) (hB 7 (by decide)) (hB 8 (by decide)) e_t) (cwV (bytes := cX3_isLatched) (maxL := 2) (ret := (some .boolean)) 1 S.2.2.2.2 gX5_isClearable_X3_isLatched rfl rfl rfl (by decide +kernel) ⟨Nat.le_of_ble_eq_true rfl, Nat.le_of_ble_eq_true rfl⟩) (hB 5 (by decide)) rfl rfl rfl (by decide) rfl hl.1 rfl (Nat.le_of_ble_eq_true rfl) ⟨Nat.zero_le _, Nat.zero_le _⟩ dX5_isClearable_5 (fun v I1 L1 H locs hR G => ?_)
  obtain ⟨hv, hI, hL⟩ := hR
  subst hv
  have G : GS E I L sg H locs := G.same hI hL
  refine W.eq (g2 := F0 mg 8 ls [.int (if ¬ t 2 = 0 then 1 else 0)]) rfl ?_
  refine s_if_eq_b (P := ¬ t 2 = 0) (tgt := 35) S dX5_isClearable_8 (by decide) (fun c_1 => ?_) (fun c_1 => ?_)
  · refine lv_iconst (v := (0 : Int32)) S.1 S.2.1 dX5_isClearable_35 (by decide) ?_
    refine s_zret (x := (0 : Int32)) S G hr hlk dX5_isClearable_36 (Or.inl rfl) ?_
    exact ⟨(congrArg (fun q : Int32 => some (Value.int q)) (show (0 : Int32) = (if ¬ t 2 = 0 ∧ plcF t u 2 = 0 ∧ ¬ sv 4 / 2 < b 5 then 1 else 0) by first | (simp [c_1]; done) | (clear S hX G hl; grind []))), rfl, rfl⟩
  · refine lv_aload_n S.1 S.2.1 dX5_isClearable_11 rfl (lv_at hl 0 rfl) ?_
    refine s_get S hX G (i := B) (kd := 5) (a := b) (v := .ref (E.2.2.2 (B + 5))) (C := RX5) (T := TX5) (N := 13) 3 (hB 0 (by decide)) e_b rfl rfl (by decide) rfl (fun _ h => (List.mem_cons_of_mem _ (List.mem_append_left _ (List.mem_append_left _ (List.mem_append_right _ h))))) (by decide) (List.mem_of_getElem? (i := 1) rfl) (fun _ h => h) dX5_isClearable_12 ?_
    refine lv_iload_n S.1 S.2.1 dX5_isClearable_15 rfl (lv_at hl 1 rfl) ?_
    refine s_callV (C := RX3) (As := [.int (2 : Int32)]) (rest := []) (i := (B + 5)) (kd := 3) S hX G (k_X3_placeOf_2 l E (B + 5) t u (hB 5 (by decide)) (hB 6 (by decide)) (hB 7 (by decide)) (hB 8 (by decide)) e_t e_u) (cwV (bytes := cX3_placeOf) (maxL := 6) (ret := (some .int)) 1 S.2.2.2.2 gX5_isClearable_X3_placeOf rfl rfl rfl (by decide +kernel) ⟨Nat.le_of_ble_eq_true rfl, Nat.le_of_ble_eq_true rfl⟩) (hB 5 (by decide)) rfl rfl rfl (by decide) rfl hl.1 rfl (Nat.le_of_ble_eq_true rfl) ⟨Nat.zero_le _, Nat.zero_le _⟩ dX5_isClearable_16 (fun v I1 L1 H locs hR G => ?_)
    obtain ⟨hv, hI, hL⟩ := hR
    subst hv
    have G : GS E I L sg H locs := G.same hI hL
    refine W.eq (g2 := F0 mg 19 ls [.int (plcF t u 2)]) rfl ?_
    refine lv_topi (fun y_2 ey_2 => ?_)
    refine lv_if_ne (tgt := 35) S.1 S.2.1 dX5_isClearable_19 (by decide) (fun c_3 => ?_) (fun c_3 => ?_)
    · refine lv_iconst (v := (0 : Int32)) S.1 S.2.1 dX5_isClearable_35 (by decide) ?_
      refine s_zret (x := (0 : Int32)) S G hr hlk dX5_isClearable_36 (Or.inl rfl) ?_
      exact ⟨(congrArg (fun q : Int32 => some (Value.int q)) (show (0 : Int32) = (if ¬ t 2 = 0 ∧ plcF t u 2 = 0 ∧ ¬ sv 4 / 2 < b 5 then 1 else 0) by subst ey_2; (first | (simp [c_1, c_3]; done) | (clear S hX G hl; grind [])))), rfl, rfl⟩
    · refine lv_aload_n S.1 S.2.1 dX5_isClearable_22 rfl (lv_at hl 0 rfl) ?_
      refine lv_iload_n S.1 S.2.1 dX5_isClearable_23 rfl (lv_at hl 1 rfl) ?_
      refine lv_aload_n S.1 S.2.1 dX5_isClearable_24 rfl (lv_at hl 2 rfl) ?_
      refine s_callV (C := RX5) (As := [.int (2 : Int32), .ref (E.2.2.2 D)]) (rest := []) (i := B) (kd := 5) S hX G (k_X5_isCauseGone_2 l E B D b sv hB hD hD_1 e_b e_sv) (cwV (bytes := cX5_isCauseGone) (maxL := 3) (ret := (some .boolean)) 2 S.2.2.2.2 gX5_isClearable_X5_isCauseGone rfl rfl rfl (by decide +kernel) ⟨Nat.le_of_ble_eq_true rfl, Nat.le_of_ble_eq_true rfl⟩) (hB 0 (by decide)) rfl rfl rfl (by decide) rfl hl.1 rfl (Nat.le_of_ble_eq_true rfl) ⟨Nat.zero_le _, Nat.zero_le _⟩ dX5_isClearable_25 (fun v I1 L1 H locs hR G => ?_)
      obtain ⟨hv, hI, hL⟩ := hR
      subst hv
      have G : GS E I L sg H locs := G.same hI hL
      refine W.eq (g2 := F0 mg 28 ls [.int (if ¬ sv 4 / 2 < b 5 then 1 else 0)]) rfl ?_
      refine s_if_eq_b (P := ¬ sv 4 / 2 < b 5) (tgt := 35) S dX5_isClearable_28 (by decide) (fun c_4 => ?_) (fun c_4 => ?_)
      · refine lv_iconst (v := (0 : Int32)) S.1 S.2.1 dX5_isClearable_35 (by decide) ?_
        refine s_zret (x := (0 : Int32)) S G hr hlk dX5_isClearable_36 (Or.inl rfl) ?_
        exact ⟨(congrArg (fun q : Int32 => some (Value.int q)) (show (0 : Int32) = (if ¬ t 2 = 0 ∧ plcF t u 2 = 0 ∧ ¬ sv 4 / 2 < b 5 then 1 else 0) by subst ey_2; (first | (simp [c_1, c_3, c_4]; done) | (clear S hX G hl; grind [])))), rfl, rfl⟩
      · refine lv_iconst (v := (1 : Int32)) S.1 S.2.1 dX5_isClearable_31 (by decide) ?_
        refine lv_goto (tgt := 36) S.1 S.2.1 dX5_isClearable_32 (by decide) ?_
        refine s_zret (x := (1 : Int32)) S G hr hlk dX5_isClearable_36 (Or.inr rfl) ?_
        exact ⟨(congrArg (fun q : Int32 => some (Value.int q)) (show (1 : Int32) = (if ¬ t 2 = 0 ∧ plcF t u 2 = 0 ∧ ¬ sv 4 / 2 < b 5 then 1 else 0) by subst ey_2; (first | (simp [c_1, c_3, c_4]; done) | (clear S hX G hl; grind [])))), rfl, rfl⟩
set_option maxHeartbeats 4000000 in
set_option maxRecDepth 100000 in
theorem k_X5_isSeen_2 (l : Launch) (E : Ev) {I : SI} {L : SL} (B : Nat) (D : Nat) (b : Nat → Int32) (dv : Nat → Int32) (sv : Nat → Int32) (hB : IsLd B) (hD : sh (D) = 1) (hD_1 : sh (D+1) = 20) (e_b : I (B) = b) (e_dv : I (B+4) = dv) (e_sv : I (D+1) = sv) : CS l yX5_isSeen wsX5_isSeen ({ frames := 2, cells := 0, slots := 0, locals := 42 }) E [.ref (E.2.2.2 B), .int (2 : Int32), .ref (E.2.2.2 D)] I L (fun vv I' L' => vv = some (.int (if ¬ b 5 < sv 4 then 1 else 0)) ∧ I' = I ∧ L' = L) := by
  refine CS.of (cc := cX5_isSeen) (maxL := 3) (ret := (some .boolean)) (by decide) rfl (Nat.le_of_ble_eq_true rfl) ?_
  intro pg en sg mg below meth cg ls S hr hlk hX G hl
  have S : CallFix pg mg cg cX5_isSeen 3 sg _ wsX5_isSeen RX5 := S
  have hl : lv_has ls 3 [(0, .ref (E.2.2.2 B)), (1, .int (2 : Int32)), (2, .ref (E.2.2.2 D))] := hl
  refine lv_iload_n S.1 S.2.1 dX5_isSeen_0 rfl (lv_at hl 1 rfl) ?_
  refine lv_lookup (off := 85) (tgt := 86) S.1 S.2.1 dX5_isSeen_1 (by decide) (by decide) (by decide) ?_
  refine lv_aload_n S.1 S.2.1 dX5_isSeen_86 rfl (lv_at hl 0 rfl) ?_
  refine s_get S hX G (i := B) (kd := 5) (a := b) (v := .int (b 5)) (C := RX5) (T := TX5) (N := 13) 5 (hB 0 (by decide)) e_b rfl rfl (by decide) rfl (fun _ h => (List.mem_cons_of_mem _ (List.mem_append_left _ (List.mem_append_right _ h)))) (by decide) (List.mem_of_getElem? (i := 4) rfl) (fun _ h => h) dX5_isSeen_87 ?_
  refine lv_aload_n S.1 S.2.1 dX5_isSeen_90 rfl (lv_at hl 2 rfl) ?_
  refine lv_iconst (v := (4 : Int32)) S.1 S.2.1 dX5_isSeen_91 (by decide) ?_
  refine s_callV (C := RX1) (As := [.int (4 : Int32)]) (rest := [.int (b 5)]) (i := D) (kd := 1) S hX G (k_X1_value6_4 l E D sv hD hD_1 e_sv) (cwV (bytes := cX1_value) (maxL := 2) (ret := (some .int)) 1 S.2.2.2.2 gX5_isSeen_X1_value rfl rfl rfl (by decide +kernel) ⟨Nat.le_of_ble_eq_true rfl, Nat.le_of_ble_eq_true rfl⟩) hD rfl rfl rfl (by decide) rfl hl.1 rfl (Nat.le_of_ble_eq_true rfl) ⟨Nat.zero_le _, Nat.zero_le _⟩ dX5_isSeen_92 (fun v I1 L1 H locs hR G => ?_)
  obtain ⟨hv, hI, hL⟩ := hR
  subst hv
  have G : GS E I L sg H locs := G.same hI hL
  refine W.eq (g2 := F0 mg 95 ls [.int (sv 4), .int (b 5)]) rfl ?_
  refine lv_icmp_lt (tgt := 102) S.1 S.2.1 dX5_isSeen_95 (by decide) (fun c_1 => ?_) (fun c_1 => ?_)
  · refine lv_iconst (v := (0 : Int32)) S.1 S.2.1 dX5_isSeen_102 (by decide) ?_
    refine s_zret (x := (0 : Int32)) S G hr hlk dX5_isSeen_103 (Or.inl rfl) ?_
    exact ⟨(congrArg (fun q : Int32 => some (Value.int q)) (show (0 : Int32) = (if ¬ b 5 < sv 4 then 1 else 0) by first | (simp [c_1]; done) | (clear S hX G hl; grind []))), rfl, rfl⟩
  · refine lv_iconst (v := (1 : Int32)) S.1 S.2.1 dX5_isSeen_98 (by decide) ?_
    refine lv_goto (tgt := 103) S.1 S.2.1 dX5_isSeen_99 (by decide) ?_
    refine s_zret (x := (1 : Int32)) S G hr hlk dX5_isSeen_103 (Or.inr rfl) ?_
    exact ⟨(congrArg (fun q : Int32 => some (Value.int q)) (show (1 : Int32) = (if ¬ b 5 < sv 4 then 1 else 0) by first | (simp [c_1]; done) | (clear S hX G hl; grind []))), rfl, rfl⟩
set_option maxHeartbeats 4000000 in
set_option maxRecDepth 100000 in
theorem k_X5_passLegs (l : Launch) (E : Ev) {I : SI} {L : SL} (B : Nat) (D : Nat) (b : Nat → Int32) (p : Nat → Int32) (q : Nat → Int32) (n : Nat → Int32) (sv : Nat → Int32) (hB : IsLd B) (hD : sh (D) = 1) (hD_1 : sh (D+1) = 20) (e_b : I (B) = b) (e_p : I (B+1) = p) (e_q : I (B+2) = q) (e_n : I (B+5) = n) (e_sv : I (D+1) = sv) (hD1 : D + 1 ≠ B + 1) (hD2 : D + 1 ≠ B + 2) : CS l yX5_passLegs wsX5_passLegs ({ frames := 2, cells := 0, slots := 0, locals := 47 }) E [.ref (E.2.2.2 B), .ref (E.2.2.2 D)] I L (fun vv I' L' => vv = none ∧ I' = (up (up (up I (B) (legsF b p q n sv)) (B+1) (legF p (fWishF b p q n) (sv 0))) (B+2) (legF q (sWishF q n) (sv 0))) ∧ L' = L) := by
  refine CS.of (cc := cX5_passLegs) (maxL := 7) (ret := none) (by decide) rfl (Nat.le_of_ble_eq_true rfl) ?_
  intro pg en sg mg below meth cg ls S hr hlk hX G hl
  have S : CallFix pg mg cg cX5_passLegs 7 sg _ wsX5_passLegs RX5 := S
  have hl : lv_has ls 7 [(0, .ref (E.2.2.2 B)), (1, .ref (E.2.2.2 D))] := hl
  refine lv_aload_n S.1 S.2.1 dX5_passLegs_0 rfl (lv_at hl 1 rfl) ?_
  refine lv_iconst (v := (0 : Int32)) S.1 S.2.1 dX5_passLegs_1 (by decide) ?_
  refine s_callV (C := RX1) (As := [.int (0 : Int32)]) (rest := []) (i := D) (kd := 1) S hX G (k_X1_value6_0 l E D sv hD hD_1 e_sv) (cwV (bytes := cX1_value) (maxL := 2) (ret := (some .int)) 1 S.2.2.2.2 gX5_passLegs_X1_value rfl rfl rfl (by decide +kernel) ⟨Nat.le_of_ble_eq_true rfl, Nat.le_of_ble_eq_true rfl⟩) hD rfl rfl rfl (by decide) rfl hl.1 rfl (Nat.le_of_ble_eq_true rfl) ⟨Nat.zero_le _, Nat.zero_le _⟩ dX5_passLegs_2 (fun v I1 L1 H locs hR G => ?_)
  obtain ⟨hv, hI, hL⟩ := hR
  subst hv
  have G : GS E I L sg H locs := G.same hI hL
  refine W.eq (g2 := F0 mg 5 ls [.int (sv 0)]) rfl ?_
  refine lv_istore_n (lv' := [(2, .int (sv 0)), (0, .ref (E.2.2.2 B)), (1, .ref (E.2.2.2 D))]) S.1 S.2.1 dX5_passLegs_5 rfl hl (by decide) rfl (fun ls hl => ?_)
  refine lv_aload_n S.1 S.2.1 dX5_passLegs_6 rfl (lv_at hl 1 rfl) ?_
  refine s_callV (C := RX5) (As := []) (rest := []) (i := B) (kd := 5) S hX G (k_X5_firstWish l E B b p q n hB e_b e_p e_q e_n) (cwV (bytes := cX5_firstWish) (maxL := 1) (ret := (some .int)) 0 S.2.2.2.2 gX5_passLegs_X5_firstWish rfl rfl rfl (by decide +kernel) ⟨Nat.le_of_ble_eq_true rfl, Nat.le_of_ble_eq_true rfl⟩) (hB 0 (by decide)) rfl rfl rfl (by decide) rfl hl.1 rfl (Nat.le_of_ble_eq_true rfl) ⟨Nat.zero_le _, Nat.zero_le _⟩ dX5_passLegs_7 (fun v I1 L1 H locs hR G => ?_)
  obtain ⟨hv, hI, hL⟩ := hR
  subst hv
  have G : GS E I L sg H locs := G.same hI hL
  refine W.eq (g2 := F0 mg 10 ls [.int (fWishF b p q n)]) rfl ?_
  refine lv_topi (fun y_1 ey_1 => ?_)
  refine lv_istore_n (lv' := [(3, .int y_1), (2, .int (sv 0)), (0, .ref (E.2.2.2 B)), (1, .ref (E.2.2.2 D))]) S.1 S.2.1 dX5_passLegs_10 rfl hl (by decide) rfl (fun ls hl => ?_)
  refine lv_aload_n S.1 S.2.1 dX5_passLegs_11 rfl (lv_at hl 2 rfl) ?_
  refine s_callV (C := RX5) (As := []) (rest := []) (i := B) (kd := 5) S hX G (k_X5_secondWish l E B q n hB e_q e_n) (cwV (bytes := cX5_secondWish) (maxL := 1) (ret := (some .int)) 0 S.2.2.2.2 gX5_passLegs_X5_secondWish rfl rfl rfl (by decide +kernel) ⟨Nat.le_of_ble_eq_true rfl, Nat.le_of_ble_eq_true rfl⟩) (hB 0 (by decide)) rfl rfl rfl (by decide) rfl hl.1 rfl (Nat.le_of_ble_eq_true rfl) ⟨Nat.zero_le _, Nat.zero_le _⟩ dX5_passLegs_12 (fun v I1 L1 H locs hR G => ?_)
  obtain ⟨hv, hI, hL⟩ := hR
  subst hv
  have G : GS E I L sg H locs := G.same hI hL
  refine W.eq (g2 := F0 mg 15 ls [.int (sWishF q n)]) rfl ?_
  refine lv_topi (fun y_2 ey_2 => ?_)
  refine lv_istore (lv' := [(4, .int y_2), (3, .int y_1), (2, .int (sv 0)), (0, .ref (E.2.2.2 B)), (1, .ref (E.2.2.2 D))]) S.1 S.2.1 dX5_passLegs_15 hl (by decide) rfl (fun ls hl => ?_)
  refine lv_aload_n S.1 S.2.1 dX5_passLegs_17 rfl (lv_at hl 3 rfl) ?_
  refine s_get S hX G (i := B) (kd := 5) (a := b) (v := .ref (E.2.2.2 (B + 1))) (C := RX5) (T := TX5) (N := 13) 0 (hB 0 (by decide)) e_b rfl rfl (by decide) rfl (fun _ h => (List.mem_cons_of_mem _ (List.mem_append_left _ (List.mem_append_left _ (List.mem_append_left _ (List.mem_append_right _ h)))))) (by decide) (List.mem_of_getElem? (i := 1) rfl) (fun _ h => h) dX5_passLegs_18 ?_
  refine lv_iload_n S.1 S.2.1 dX5_passLegs_21 rfl (lv_at hl 1 rfl) ?_
  refine lv_iload_n S.1 S.2.1 dX5_passLegs_22 rfl (lv_at hl 2 rfl) ?_
  refine s_callV (C := RX4) (As := [.int y_1, .int (sv 0)]) (rest := []) (i := (B + 1)) (kd := 4) S hX G (k_X4_pass l E (B + 1) y_1 (sv 0) p (hB 1 (by decide)) e_p) (cwV (bytes := cX4_pass) (maxL := 5) (ret := (some .boolean)) 2 S.2.2.2.2 gX5_passLegs_X4_pass rfl rfl rfl (by decide +kernel) ⟨Nat.le_of_ble_eq_true rfl, Nat.le_of_ble_eq_true rfl⟩) (hB 1 (by decide)) rfl rfl rfl (by decide) rfl hl.1 rfl (Nat.le_of_ble_eq_true rfl) ⟨Nat.zero_le _, Nat.zero_le _⟩ dX5_passLegs_23 (fun v I1 L1 H locs hR G => ?_)
  obtain ⟨hv, hI, hL⟩ := hR
  subst hv
  obtain ⟨r_3, er_3⟩ : ∃ r : Nat → Int32, r = (legF p y_1 (sv 0)) := ⟨_, rfl⟩
  rw [← er_3] at hI
  have G : GS E (up I (B + 1) r_3) L sg H locs := G.same hI hL
  refine W.eq (g2 := F0 mg 26 ls [.int (if ¬ stF p y_1 (sv 0) = p 1 then 1 else 0)]) rfl ?_
  refine lv_istore (lv' := [(5, .int (if ¬ stF p y_1 (sv 0) = p 1 then 1 else 0)), (4, .int y_2), (3, .int y_1), (2, .int (sv 0)), (0, .ref (E.2.2.2 B)), (1, .ref (E.2.2.2 D))]) S.1 S.2.1 dX5_passLegs_26 hl (by decide) rfl (fun ls hl => ?_)
  refine lv_aload_n S.1 S.2.1 dX5_passLegs_28 rfl (lv_at hl 4 rfl) ?_
  refine s_get S hX G (i := B) (kd := 5) (a := b) (v := .ref (E.2.2.2 (B + 2))) (C := RX5) (T := TX5) (N := 13) 1 (hB 0 (by decide)) ((up_ne (by omega)).trans e_b) rfl rfl (by decide) rfl (fun _ h => (List.mem_cons_of_mem _ (List.mem_append_left _ (List.mem_append_left _ (List.mem_append_left _ (List.mem_append_right _ h)))))) (by decide) (List.mem_of_getElem? (i := 2) rfl) (fun _ h => h) dX5_passLegs_29 ?_
  refine lv_iload S.1 S.2.1 dX5_passLegs_32 (lv_at hl 1 rfl) ?_
  refine lv_iload_n S.1 S.2.1 dX5_passLegs_34 rfl (lv_at hl 3 rfl) ?_
  refine s_callV (C := RX4) (As := [.int y_2, .int (sv 0)]) (rest := []) (i := (B + 2)) (kd := 4) S hX G (k_X4_pass l E (B + 2) y_2 (sv 0) q (hB 2 (by decide)) ((up_ne (by omega)).trans e_q)) (cwV (bytes := cX4_pass) (maxL := 5) (ret := (some .boolean)) 2 S.2.2.2.2 gX5_passLegs_X4_pass rfl rfl rfl (by decide +kernel) ⟨Nat.le_of_ble_eq_true rfl, Nat.le_of_ble_eq_true rfl⟩) (hB 2 (by decide)) rfl rfl rfl (by decide) rfl hl.1 rfl (Nat.le_of_ble_eq_true rfl) ⟨Nat.zero_le _, Nat.zero_le _⟩ dX5_passLegs_35 (fun v I1 L1 H locs hR G => ?_)
  obtain ⟨hv, hI, hL⟩ := hR
  subst hv
  obtain ⟨r_4, er_4⟩ : ∃ r : Nat → Int32, r = (legF q y_2 (sv 0)) := ⟨_, rfl⟩
  rw [← er_4] at hI
  have G : GS E (up (up I (B + 1) r_3) (B + 2) r_4) L sg H locs := G.same hI hL
  refine W.eq (g2 := F0 mg 38 ls [.int (if ¬ stF q y_2 (sv 0) = q 1 then 1 else 0)]) rfl ?_
  refine lv_istore (lv' := [(6, .int (if ¬ stF q y_2 (sv 0) = q 1 then 1 else 0)), (5, .int (if ¬ stF p y_1 (sv 0) = p 1 then 1 else 0)), (4, .int y_2), (3, .int y_1), (2, .int (sv 0)), (0, .ref (E.2.2.2 B)), (1, .ref (E.2.2.2 D))]) S.1 S.2.1 dX5_passLegs_38 hl (by decide) rfl (fun ls hl => ?_)
  refine lv_iload S.1 S.2.1 dX5_passLegs_40 (lv_at hl 1 rfl) ?_
  refine s_if_ne_b (P := ¬ stF p y_1 (sv 0) = p 1) (tgt := 50) S dX5_passLegs_42 (by decide) (fun c_5 => ?_) (fun c_5 => ?_)
  · refine lv_aload_n S.1 S.2.1 dX5_passLegs_50 rfl (lv_at hl 5 rfl) ?_
    refine lv_aload_n S.1 S.2.1 dX5_passLegs_51 rfl (lv_at hl 6 rfl) ?_
    refine lv_iconst (v := (1 : Int32)) S.1 S.2.1 dX5_passLegs_52 (by decide) ?_
    refine s_callV (C := RX1) (As := [.int (1 : Int32)]) (rest := [.ref (E.2.2.2 B)]) (i := D) (kd := 1) S hX G (k_X1_value6_1 l E D sv hD hD_1 ((up_ne (by omega)).trans ((up_ne (by omega)).trans e_sv))) (cwV (bytes := cX1_value) (maxL := 2) (ret := (some .int)) 1 S.2.2.2.2 gX5_passLegs_X1_value rfl rfl rfl (by decide +kernel) ⟨Nat.le_of_ble_eq_true rfl, Nat.le_of_ble_eq_true rfl⟩) hD rfl rfl rfl (by decide) rfl hl.1 rfl (Nat.le_of_ble_eq_true rfl) ⟨Nat.zero_le _, Nat.zero_le _⟩ dX5_passLegs_53 (fun v I1 L1 H locs hR G => ?_)
    obtain ⟨hv, hI, hL⟩ := hR
    subst hv
    have G : GS E (up (up I (B + 1) r_3) (B + 2) r_4) L sg H locs := G.same hI hL
    refine W.eq (g2 := F0 mg 56 ls [.int (sv 1), .ref (E.2.2.2 B)]) rfl ?_
    refine s_put S hX G (i := B) (kd := 5) (a := b) (a' := (upd b 8 (sv 1))) (I' := (up (up (up I (B + 1) r_3) (B + 2) r_4) B (upd b 8 (sv 1)))) (v := .int (sv 1)) (ty := .int) (ty0 := tyX5) (C := RX5) (T := TX5) (N := 13) 8 (hB 0 (by decide)) ((up_ne (by omega)).trans ((up_ne (by omega)).trans e_b)) rfl rfl rfl (by decide) rfl (fun _ h => (List.mem_cons_of_mem _ (List.mem_append_left _ (List.mem_append_left _ (List.mem_append_left _ (List.mem_append_right _ h)))))) tyX5_ok nmX5 (by decide) (List.mem_of_getElem? (i := 3) rfl) (fun _ h => h) rfl (by decide +kernel) rfl rfl (Nat.le_of_ble_eq_true rfl) dX5_passLegs_56 (fun H locs G => ?_)
    refine lv_aload_n S.1 S.2.1 dX5_passLegs_59 rfl (lv_at hl 5 rfl) ?_
    refine lv_aload_n S.1 S.2.1 dX5_passLegs_60 rfl (lv_at hl 5 rfl) ?_
    refine s_callV (C := RX5) (As := []) (rest := [.ref (E.2.2.2 B)]) (i := B) (kd := 5) S hX G (k_X5_driveOfStates l E B r_3 r_4 hB ((up_ne (by omega)).trans ((up_ne (by omega)).trans up_eq)) ((up_ne (by omega)).trans up_eq)) (cwV (bytes := cX5_driveOfStates) (maxL := 1) (ret := (some .int)) 0 S.2.2.2.2 gX5_passLegs_X5_driveOfStates rfl rfl rfl (by decide +kernel) ⟨Nat.le_of_ble_eq_true rfl, Nat.le_of_ble_eq_true rfl⟩) (hB 0 (by decide)) rfl rfl rfl (by decide) rfl hl.1 rfl (Nat.le_of_ble_eq_true rfl) ⟨Nat.zero_le _, Nat.zero_le _⟩ dX5_passLegs_61 (fun v I1 L1 H locs hR G => ?_)
    obtain ⟨hv, hI, hL⟩ := hR
    subst hv
    have G : GS E (up (up (up I (B + 1) r_3) (B + 2) r_4) B (upd b 8 (sv 1))) L sg H locs := G.same hI hL
    refine W.eq (g2 := F0 mg 64 ls [.int (drvF r_3 r_4), .ref (E.2.2.2 B)]) rfl ?_
    refine lv_topi (fun y_6 ey_6 => ?_)
    refine s_put S hX G (i := B) (kd := 5) (a := (upd b 8 (sv 1))) (a' := (upd (upd b 8 (sv 1)) 9 y_6)) (I' := (up (up (up I (B + 1) r_3) (B + 2) r_4) B (upd (upd b 8 (sv 1)) 9 y_6))) (v := .int y_6) (ty := .int) (ty0 := tyX5) (C := RX5) (T := TX5) (N := 13) 9 (hB 0 (by decide)) up_eq rfl rfl (by rw [up_up]) (by decide) rfl (fun _ h => (List.mem_cons_of_mem _ (List.mem_append_left _ (List.mem_append_left _ (List.mem_append_left _ (List.mem_append_right _ h)))))) tyX5_ok nmX5 (by decide) (List.mem_of_getElem? (i := 4) rfl) (fun _ h => h) rfl (by decide +kernel) rfl rfl (Nat.le_of_ble_eq_true rfl) dX5_passLegs_64 (fun H locs G => ?_)
    refine lv_aload_n S.1 S.2.1 dX5_passLegs_67 rfl (lv_at hl 5 rfl) ?_
    refine lv_aload_n S.1 S.2.1 dX5_passLegs_68 rfl (lv_at hl 5 rfl) ?_
    refine s_get S hX G (i := B) (kd := 5) (a := (upd (upd b 8 (sv 1)) 9 y_6)) (v := .int y_6) (C := RX5) (T := TX5) (N := 13) 9 (hB 0 (by decide)) up_eq rfl rfl (by decide) rfl (fun _ h => (List.mem_cons_of_mem _ (List.mem_append_left _ (List.mem_append_left _ (List.mem_append_left _ (List.mem_append_right _ h)))))) (by decide) (List.mem_of_getElem? (i := 4) rfl) (fun _ h => h) dX5_passLegs_69 ?_
    refine lv_iconst (v := (1 : Int32)) S.1 S.2.1 dX5_passLegs_72 (by decide) ?_
    refine lv_icmp_eq (tgt := 84) S.1 S.2.1 dX5_passLegs_73 (by decide) (fun c_7 => ?_) (fun c_7 => ?_)
    · refine lv_aload_n S.1 S.2.1 dX5_passLegs_84 rfl (lv_at hl 5 rfl) ?_
      refine s_get S hX G (i := B) (kd := 5) (a := (upd (upd b 8 (sv 1)) 9 y_6)) (v := .int (b 10)) (C := RX5) (T := TX5) (N := 13) 10 (hB 0 (by decide)) up_eq rfl rfl (by decide) rfl (fun _ h => (List.mem_cons_of_mem _ (List.mem_append_left _ (List.mem_append_left _ (List.mem_append_left _ (List.mem_append_right _ h)))))) (by decide) (List.mem_of_getElem? (i := 5) rfl) (fun _ h => h) dX5_passLegs_85 ?_
      refine lv_iconst (v := (1 : Int32)) S.1 S.2.1 dX5_passLegs_88 (by decide) ?_
      refine s_iadd (v := ((b 10) + (1 : Int32))) S dX5_passLegs_89 rfl ?_
      refine lv_goto (tgt := 94) S.1 S.2.1 dX5_passLegs_90 (by decide) ?_
      refine lv_topi (fun y_8 ey_8 => ?_)
      refine s_put S hX G (i := B) (kd := 5) (a := (upd (upd b 8 (sv 1)) 9 y_6)) (a' := (upd (upd (upd b 8 (sv 1)) 9 y_6) 10 y_8)) (I' := (up (up (up I (B + 1) r_3) (B + 2) r_4) B (upd (upd (upd b 8 (sv 1)) 9 y_6) 10 y_8))) (v := .int y_8) (ty := .int) (ty0 := tyX5) (C := RX5) (T := TX5) (N := 13) 10 (hB 0 (by decide)) up_eq rfl rfl (by rw [up_up]) (by decide) rfl (fun _ h => (List.mem_cons_of_mem _ (List.mem_append_left _ (List.mem_append_left _ (List.mem_append_left _ (List.mem_append_right _ h)))))) tyX5_ok nmX5 (by decide) (List.mem_of_getElem? (i := 5) rfl) (fun _ h => h) rfl (by decide +kernel) rfl rfl (Nat.le_of_ble_eq_true rfl) dX5_passLegs_94 (fun H locs G => ?_)
      refine s_vret S G hr hlk dX5_passLegs_97 ?_
      exact ⟨rfl, (st_eq3 (Eq.trans up_eq (show (upd (upd (upd b 8 (sv 1)) 9 y_6) 10 y_8) = (legsF b p q n sv) by subst ey_8 ey_6 er_4 er_3 ey_2 ey_1; (first | (simp [legsF, c_5, c_7]; done) | (clear S hX G hl; grind [legsF])))) (Eq.trans ((up_ne (by omega)).trans ((up_ne (by omega)).trans up_eq)) (show r_3 = (legF p (fWishF b p q n) (sv 0)) by subst ey_8 ey_6 er_4 er_3 ey_2 ey_1; (first | (simp [legsF, c_5, c_7]; done) | (clear S hX G hl; grind [legsF])))) (Eq.trans ((up_ne (by omega)).trans up_eq) (show r_4 = (legF q (sWishF q n) (sv 0)) by subst ey_8 ey_6 er_4 er_3 ey_2 ey_1; (first | (simp [legsF, c_5, c_7]; done) | (clear S hX G hl; grind [legsF])))) (fun _ g0 g1 g2 => ((up_ne g0).trans ((up_ne g2).trans (up_ne g1))))), rfl⟩
    · refine lv_aload_n S.1 S.2.1 dX5_passLegs_76 rfl (lv_at hl 5 rfl) ?_
      refine s_get S hX G (i := B) (kd := 5) (a := (upd (upd b 8 (sv 1)) 9 y_6)) (v := .int y_6) (C := RX5) (T := TX5) (N := 13) 9 (hB 0 (by decide)) up_eq rfl rfl (by decide) rfl (fun _ h => (List.mem_cons_of_mem _ (List.mem_append_left _ (List.mem_append_left _ (List.mem_append_left _ (List.mem_append_right _ h)))))) (by decide) (List.mem_of_getElem? (i := 4) rfl) (fun _ h => h) dX5_passLegs_77 ?_
      refine lv_iconst (v := (-1 : Int32)) S.1 S.2.1 dX5_passLegs_80 (by decide) ?_
      refine lv_icmp_ne (tgt := 93) S.1 S.2.1 dX5_passLegs_81 (by decide) (fun c_9 => ?_) (fun c_9 => ?_)
      · refine lv_iconst (v := (0 : Int32)) S.1 S.2.1 dX5_passLegs_93 (by decide) ?_
        refine s_put S hX G (i := B) (kd := 5) (a := (upd (upd b 8 (sv 1)) 9 y_6)) (a' := (upd (upd (upd b 8 (sv 1)) 9 y_6) 10 (0 : Int32))) (I' := (up (up (up I (B + 1) r_3) (B + 2) r_4) B (upd (upd (upd b 8 (sv 1)) 9 y_6) 10 (0 : Int32)))) (v := .int (0 : Int32)) (ty := .int) (ty0 := tyX5) (C := RX5) (T := TX5) (N := 13) 10 (hB 0 (by decide)) up_eq rfl rfl (by rw [up_up]) (by decide) rfl (fun _ h => (List.mem_cons_of_mem _ (List.mem_append_left _ (List.mem_append_left _ (List.mem_append_left _ (List.mem_append_right _ h)))))) tyX5_ok nmX5 (by decide) (List.mem_of_getElem? (i := 5) rfl) (fun _ h => h) rfl (by decide +kernel) rfl rfl (Nat.le_of_ble_eq_true rfl) dX5_passLegs_94 (fun H locs G => ?_)
        refine s_vret S G hr hlk dX5_passLegs_97 ?_
        exact ⟨rfl, (st_eq3 (Eq.trans up_eq (show (upd (upd (upd b 8 (sv 1)) 9 y_6) 10 (0 : Int32)) = (legsF b p q n sv) by subst ey_6 er_4 er_3 ey_2 ey_1; (first | (simp [legsF, c_5, c_7, c_9]; done) | (clear S hX G hl; grind [legsF])))) (Eq.trans ((up_ne (by omega)).trans ((up_ne (by omega)).trans up_eq)) (show r_3 = (legF p (fWishF b p q n) (sv 0)) by subst ey_6 er_4 er_3 ey_2 ey_1; (first | (simp [legsF, c_5, c_7, c_9]; done) | (clear S hX G hl; grind [legsF])))) (Eq.trans ((up_ne (by omega)).trans up_eq) (show r_4 = (legF q (sWishF q n) (sv 0)) by subst ey_6 er_4 er_3 ey_2 ey_1; (first | (simp [legsF, c_5, c_7, c_9]; done) | (clear S hX G hl; grind [legsF])))) (fun _ g0 g1 g2 => ((up_ne g0).trans ((up_ne g2).trans (up_ne g1))))), rfl⟩
      · refine lv_aload_n S.1 S.2.1 dX5_passLegs_84 rfl (lv_at hl 5 rfl) ?_
        refine s_get S hX G (i := B) (kd := 5) (a := (upd (upd b 8 (sv 1)) 9 y_6)) (v := .int (b 10)) (C := RX5) (T := TX5) (N := 13) 10 (hB 0 (by decide)) up_eq rfl rfl (by decide) rfl (fun _ h => (List.mem_cons_of_mem _ (List.mem_append_left _ (List.mem_append_left _ (List.mem_append_left _ (List.mem_append_right _ h)))))) (by decide) (List.mem_of_getElem? (i := 5) rfl) (fun _ h => h) dX5_passLegs_85 ?_
        refine lv_iconst (v := (1 : Int32)) S.1 S.2.1 dX5_passLegs_88 (by decide) ?_
        refine s_iadd (v := ((b 10) + (1 : Int32))) S dX5_passLegs_89 rfl ?_
        refine lv_goto (tgt := 94) S.1 S.2.1 dX5_passLegs_90 (by decide) ?_
        refine lv_topi (fun y_10 ey_10 => ?_)
        refine s_put S hX G (i := B) (kd := 5) (a := (upd (upd b 8 (sv 1)) 9 y_6)) (a' := (upd (upd (upd b 8 (sv 1)) 9 y_6) 10 y_10)) (I' := (up (up (up I (B + 1) r_3) (B + 2) r_4) B (upd (upd (upd b 8 (sv 1)) 9 y_6) 10 y_10))) (v := .int y_10) (ty := .int) (ty0 := tyX5) (C := RX5) (T := TX5) (N := 13) 10 (hB 0 (by decide)) up_eq rfl rfl (by rw [up_up]) (by decide) rfl (fun _ h => (List.mem_cons_of_mem _ (List.mem_append_left _ (List.mem_append_left _ (List.mem_append_left _ (List.mem_append_right _ h)))))) tyX5_ok nmX5 (by decide) (List.mem_of_getElem? (i := 5) rfl) (fun _ h => h) rfl (by decide +kernel) rfl rfl (Nat.le_of_ble_eq_true rfl) dX5_passLegs_94 (fun H locs G => ?_)
        refine s_vret S G hr hlk dX5_passLegs_97 ?_
        exact ⟨rfl, (st_eq3 (Eq.trans up_eq (show (upd (upd (upd b 8 (sv 1)) 9 y_6) 10 y_10) = (legsF b p q n sv) by subst ey_10 ey_6 er_4 er_3 ey_2 ey_1; (first | (simp [legsF, c_5, c_7, c_9]; done) | (clear S hX G hl; grind [legsF])))) (Eq.trans ((up_ne (by omega)).trans ((up_ne (by omega)).trans up_eq)) (show r_3 = (legF p (fWishF b p q n) (sv 0)) by subst ey_10 ey_6 er_4 er_3 ey_2 ey_1; (first | (simp [legsF, c_5, c_7, c_9]; done) | (clear S hX G hl; grind [legsF])))) (Eq.trans ((up_ne (by omega)).trans up_eq) (show r_4 = (legF q (sWishF q n) (sv 0)) by subst ey_10 ey_6 er_4 er_3 ey_2 ey_1; (first | (simp [legsF, c_5, c_7, c_9]; done) | (clear S hX G hl; grind [legsF])))) (fun _ g0 g1 g2 => ((up_ne g0).trans ((up_ne g2).trans (up_ne g1))))), rfl⟩
  · refine lv_iload S.1 S.2.1 dX5_passLegs_45 (lv_at hl 0 rfl) ?_
    refine s_if_eq_b (P := ¬ stF q y_2 (sv 0) = q 1) (tgt := 59) S dX5_passLegs_47 (by decide) (fun c_11 => ?_) (fun c_11 => ?_)
    · refine lv_aload_n S.1 S.2.1 dX5_passLegs_59 rfl (lv_at hl 5 rfl) ?_
      refine lv_aload_n S.1 S.2.1 dX5_passLegs_60 rfl (lv_at hl 5 rfl) ?_
      refine s_callV (C := RX5) (As := []) (rest := [.ref (E.2.2.2 B)]) (i := B) (kd := 5) S hX G (k_X5_driveOfStates l E B r_3 r_4 hB ((up_ne (by omega)).trans up_eq) up_eq) (cwV (bytes := cX5_driveOfStates) (maxL := 1) (ret := (some .int)) 0 S.2.2.2.2 gX5_passLegs_X5_driveOfStates rfl rfl rfl (by decide +kernel) ⟨Nat.le_of_ble_eq_true rfl, Nat.le_of_ble_eq_true rfl⟩) (hB 0 (by decide)) rfl rfl rfl (by decide) rfl hl.1 rfl (Nat.le_of_ble_eq_true rfl) ⟨Nat.zero_le _, Nat.zero_le _⟩ dX5_passLegs_61 (fun v I1 L1 H locs hR G => ?_)
      obtain ⟨hv, hI, hL⟩ := hR
      subst hv
      have G : GS E (up (up I (B + 1) r_3) (B + 2) r_4) L sg H locs := G.same hI hL
      refine W.eq (g2 := F0 mg 64 ls [.int (drvF r_3 r_4), .ref (E.2.2.2 B)]) rfl ?_
      refine lv_topi (fun y_12 ey_12 => ?_)
      refine s_put S hX G (i := B) (kd := 5) (a := b) (a' := (upd b 9 y_12)) (I' := (up (up (up I (B + 1) r_3) (B + 2) r_4) B (upd b 9 y_12))) (v := .int y_12) (ty := .int) (ty0 := tyX5) (C := RX5) (T := TX5) (N := 13) 9 (hB 0 (by decide)) ((up_ne (by omega)).trans ((up_ne (by omega)).trans e_b)) rfl rfl rfl (by decide) rfl (fun _ h => (List.mem_cons_of_mem _ (List.mem_append_left _ (List.mem_append_left _ (List.mem_append_left _ (List.mem_append_right _ h)))))) tyX5_ok nmX5 (by decide) (List.mem_of_getElem? (i := 4) rfl) (fun _ h => h) rfl (by decide +kernel) rfl rfl (Nat.le_of_ble_eq_true rfl) dX5_passLegs_64 (fun H locs G => ?_)
      refine lv_aload_n S.1 S.2.1 dX5_passLegs_67 rfl (lv_at hl 5 rfl) ?_
      refine lv_aload_n S.1 S.2.1 dX5_passLegs_68 rfl (lv_at hl 5 rfl) ?_
      refine s_get S hX G (i := B) (kd := 5) (a := (upd b 9 y_12)) (v := .int y_12) (C := RX5) (T := TX5) (N := 13) 9 (hB 0 (by decide)) up_eq rfl rfl (by decide) rfl (fun _ h => (List.mem_cons_of_mem _ (List.mem_append_left _ (List.mem_append_left _ (List.mem_append_left _ (List.mem_append_right _ h)))))) (by decide) (List.mem_of_getElem? (i := 4) rfl) (fun _ h => h) dX5_passLegs_69 ?_
      refine lv_iconst (v := (1 : Int32)) S.1 S.2.1 dX5_passLegs_72 (by decide) ?_
      refine lv_icmp_eq (tgt := 84) S.1 S.2.1 dX5_passLegs_73 (by decide) (fun c_13 => ?_) (fun c_13 => ?_)
      · refine lv_aload_n S.1 S.2.1 dX5_passLegs_84 rfl (lv_at hl 5 rfl) ?_
        refine s_get S hX G (i := B) (kd := 5) (a := (upd b 9 y_12)) (v := .int (b 10)) (C := RX5) (T := TX5) (N := 13) 10 (hB 0 (by decide)) up_eq rfl rfl (by decide) rfl (fun _ h => (List.mem_cons_of_mem _ (List.mem_append_left _ (List.mem_append_left _ (List.mem_append_left _ (List.mem_append_right _ h)))))) (by decide) (List.mem_of_getElem? (i := 5) rfl) (fun _ h => h) dX5_passLegs_85 ?_
        refine lv_iconst (v := (1 : Int32)) S.1 S.2.1 dX5_passLegs_88 (by decide) ?_
        refine s_iadd (v := ((b 10) + (1 : Int32))) S dX5_passLegs_89 rfl ?_
        refine lv_goto (tgt := 94) S.1 S.2.1 dX5_passLegs_90 (by decide) ?_
        refine lv_topi (fun y_14 ey_14 => ?_)
        refine s_put S hX G (i := B) (kd := 5) (a := (upd b 9 y_12)) (a' := (upd (upd b 9 y_12) 10 y_14)) (I' := (up (up (up I (B + 1) r_3) (B + 2) r_4) B (upd (upd b 9 y_12) 10 y_14))) (v := .int y_14) (ty := .int) (ty0 := tyX5) (C := RX5) (T := TX5) (N := 13) 10 (hB 0 (by decide)) up_eq rfl rfl (by rw [up_up]) (by decide) rfl (fun _ h => (List.mem_cons_of_mem _ (List.mem_append_left _ (List.mem_append_left _ (List.mem_append_left _ (List.mem_append_right _ h)))))) tyX5_ok nmX5 (by decide) (List.mem_of_getElem? (i := 5) rfl) (fun _ h => h) rfl (by decide +kernel) rfl rfl (Nat.le_of_ble_eq_true rfl) dX5_passLegs_94 (fun H locs G => ?_)
        refine s_vret S G hr hlk dX5_passLegs_97 ?_
        exact ⟨rfl, (st_eq3 (Eq.trans up_eq (show (upd (upd b 9 y_12) 10 y_14) = (legsF b p q n sv) by subst ey_14 ey_12 er_4 er_3 ey_2 ey_1; (first | (simp [legsF, c_5, c_11, c_13]; done) | (clear S hX G hl; grind [legsF])))) (Eq.trans ((up_ne (by omega)).trans ((up_ne (by omega)).trans up_eq)) (show r_3 = (legF p (fWishF b p q n) (sv 0)) by subst ey_14 ey_12 er_4 er_3 ey_2 ey_1; (first | (simp [legsF, c_5, c_11, c_13]; done) | (clear S hX G hl; grind [legsF])))) (Eq.trans ((up_ne (by omega)).trans up_eq) (show r_4 = (legF q (sWishF q n) (sv 0)) by subst ey_14 ey_12 er_4 er_3 ey_2 ey_1; (first | (simp [legsF, c_5, c_11, c_13]; done) | (clear S hX G hl; grind [legsF])))) (fun _ g0 g1 g2 => ((up_ne g0).trans ((up_ne g2).trans (up_ne g1))))), rfl⟩
      · refine lv_aload_n S.1 S.2.1 dX5_passLegs_76 rfl (lv_at hl 5 rfl) ?_
        refine s_get S hX G (i := B) (kd := 5) (a := (upd b 9 y_12)) (v := .int y_12) (C := RX5) (T := TX5) (N := 13) 9 (hB 0 (by decide)) up_eq rfl rfl (by decide) rfl (fun _ h => (List.mem_cons_of_mem _ (List.mem_append_left _ (List.mem_append_left _ (List.mem_append_left _ (List.mem_append_right _ h)))))) (by decide) (List.mem_of_getElem? (i := 4) rfl) (fun _ h => h) dX5_passLegs_77 ?_
        refine lv_iconst (v := (-1 : Int32)) S.1 S.2.1 dX5_passLegs_80 (by decide) ?_
        refine lv_icmp_ne (tgt := 93) S.1 S.2.1 dX5_passLegs_81 (by decide) (fun c_15 => ?_) (fun c_15 => ?_)
        · refine lv_iconst (v := (0 : Int32)) S.1 S.2.1 dX5_passLegs_93 (by decide) ?_
          refine s_put S hX G (i := B) (kd := 5) (a := (upd b 9 y_12)) (a' := (upd (upd b 9 y_12) 10 (0 : Int32))) (I' := (up (up (up I (B + 1) r_3) (B + 2) r_4) B (upd (upd b 9 y_12) 10 (0 : Int32)))) (v := .int (0 : Int32)) (ty := .int) (ty0 := tyX5) (C := RX5) (T := TX5) (N := 13) 10 (hB 0 (by decide)) up_eq rfl rfl (by rw [up_up]) (by decide) rfl (fun _ h => (List.mem_cons_of_mem _ (List.mem_append_left _ (List.mem_append_left _ (List.mem_append_left _ (List.mem_append_right _ h)))))) tyX5_ok nmX5 (by decide) (List.mem_of_getElem? (i := 5) rfl) (fun _ h => h) rfl (by decide +kernel) rfl rfl (Nat.le_of_ble_eq_true rfl) dX5_passLegs_94 (fun H locs G => ?_)
          refine s_vret S G hr hlk dX5_passLegs_97 ?_
          exact ⟨rfl, (st_eq3 (Eq.trans up_eq (show (upd (upd b 9 y_12) 10 (0 : Int32)) = (legsF b p q n sv) by subst ey_12 er_4 er_3 ey_2 ey_1; (first | (simp [legsF, c_5, c_11, c_13, c_15]; done) | (clear S hX G hl; grind [legsF])))) (Eq.trans ((up_ne (by omega)).trans ((up_ne (by omega)).trans up_eq)) (show r_3 = (legF p (fWishF b p q n) (sv 0)) by subst ey_12 er_4 er_3 ey_2 ey_1; (first | (simp [legsF, c_5, c_11, c_13, c_15]; done) | (clear S hX G hl; grind [legsF])))) (Eq.trans ((up_ne (by omega)).trans up_eq) (show r_4 = (legF q (sWishF q n) (sv 0)) by subst ey_12 er_4 er_3 ey_2 ey_1; (first | (simp [legsF, c_5, c_11, c_13, c_15]; done) | (clear S hX G hl; grind [legsF])))) (fun _ g0 g1 g2 => ((up_ne g0).trans ((up_ne g2).trans (up_ne g1))))), rfl⟩
        · refine lv_aload_n S.1 S.2.1 dX5_passLegs_84 rfl (lv_at hl 5 rfl) ?_
          refine s_get S hX G (i := B) (kd := 5) (a := (upd b 9 y_12)) (v := .int (b 10)) (C := RX5) (T := TX5) (N := 13) 10 (hB 0 (by decide)) up_eq rfl rfl (by decide) rfl (fun _ h => (List.mem_cons_of_mem _ (List.mem_append_left _ (List.mem_append_left _ (List.mem_append_left _ (List.mem_append_right _ h)))))) (by decide) (List.mem_of_getElem? (i := 5) rfl) (fun _ h => h) dX5_passLegs_85 ?_
          refine lv_iconst (v := (1 : Int32)) S.1 S.2.1 dX5_passLegs_88 (by decide) ?_
          refine s_iadd (v := ((b 10) + (1 : Int32))) S dX5_passLegs_89 rfl ?_
          refine lv_goto (tgt := 94) S.1 S.2.1 dX5_passLegs_90 (by decide) ?_
          refine lv_topi (fun y_16 ey_16 => ?_)
          refine s_put S hX G (i := B) (kd := 5) (a := (upd b 9 y_12)) (a' := (upd (upd b 9 y_12) 10 y_16)) (I' := (up (up (up I (B + 1) r_3) (B + 2) r_4) B (upd (upd b 9 y_12) 10 y_16))) (v := .int y_16) (ty := .int) (ty0 := tyX5) (C := RX5) (T := TX5) (N := 13) 10 (hB 0 (by decide)) up_eq rfl rfl (by rw [up_up]) (by decide) rfl (fun _ h => (List.mem_cons_of_mem _ (List.mem_append_left _ (List.mem_append_left _ (List.mem_append_left _ (List.mem_append_right _ h)))))) tyX5_ok nmX5 (by decide) (List.mem_of_getElem? (i := 5) rfl) (fun _ h => h) rfl (by decide +kernel) rfl rfl (Nat.le_of_ble_eq_true rfl) dX5_passLegs_94 (fun H locs G => ?_)
          refine s_vret S G hr hlk dX5_passLegs_97 ?_
          exact ⟨rfl, (st_eq3 (Eq.trans up_eq (show (upd (upd b 9 y_12) 10 y_16) = (legsF b p q n sv) by subst ey_16 ey_12 er_4 er_3 ey_2 ey_1; (first | (simp [legsF, c_5, c_11, c_13, c_15]; done) | (clear S hX G hl; grind [legsF])))) (Eq.trans ((up_ne (by omega)).trans ((up_ne (by omega)).trans up_eq)) (show r_3 = (legF p (fWishF b p q n) (sv 0)) by subst ey_16 ey_12 er_4 er_3 ey_2 ey_1; (first | (simp [legsF, c_5, c_11, c_13, c_15]; done) | (clear S hX G hl; grind [legsF])))) (Eq.trans ((up_ne (by omega)).trans up_eq) (show r_4 = (legF q (sWishF q n) (sv 0)) by subst ey_16 ey_12 er_4 er_3 ey_2 ey_1; (first | (simp [legsF, c_5, c_11, c_13, c_15]; done) | (clear S hX G hl; grind [legsF])))) (fun _ g0 g1 g2 => ((up_ne g0).trans ((up_ne g2).trans (up_ne g1))))), rfl⟩
    · refine lv_aload_n S.1 S.2.1 dX5_passLegs_50 rfl (lv_at hl 5 rfl) ?_
      refine lv_aload_n S.1 S.2.1 dX5_passLegs_51 rfl (lv_at hl 6 rfl) ?_
      refine lv_iconst (v := (1 : Int32)) S.1 S.2.1 dX5_passLegs_52 (by decide) ?_
      refine s_callV (C := RX1) (As := [.int (1 : Int32)]) (rest := [.ref (E.2.2.2 B)]) (i := D) (kd := 1) S hX G (k_X1_value6_1 l E D sv hD hD_1 ((up_ne (by omega)).trans ((up_ne (by omega)).trans e_sv))) (cwV (bytes := cX1_value) (maxL := 2) (ret := (some .int)) 1 S.2.2.2.2 gX5_passLegs_X1_value rfl rfl rfl (by decide +kernel) ⟨Nat.le_of_ble_eq_true rfl, Nat.le_of_ble_eq_true rfl⟩) hD rfl rfl rfl (by decide) rfl hl.1 rfl (Nat.le_of_ble_eq_true rfl) ⟨Nat.zero_le _, Nat.zero_le _⟩ dX5_passLegs_53 (fun v I1 L1 H locs hR G => ?_)
      obtain ⟨hv, hI, hL⟩ := hR
      subst hv
      have G : GS E (up (up I (B + 1) r_3) (B + 2) r_4) L sg H locs := G.same hI hL
      refine W.eq (g2 := F0 mg 56 ls [.int (sv 1), .ref (E.2.2.2 B)]) rfl ?_
      refine s_put S hX G (i := B) (kd := 5) (a := b) (a' := (upd b 8 (sv 1))) (I' := (up (up (up I (B + 1) r_3) (B + 2) r_4) B (upd b 8 (sv 1)))) (v := .int (sv 1)) (ty := .int) (ty0 := tyX5) (C := RX5) (T := TX5) (N := 13) 8 (hB 0 (by decide)) ((up_ne (by omega)).trans ((up_ne (by omega)).trans e_b)) rfl rfl rfl (by decide) rfl (fun _ h => (List.mem_cons_of_mem _ (List.mem_append_left _ (List.mem_append_left _ (List.mem_append_left _ (List.mem_append_right _ h)))))) tyX5_ok nmX5 (by decide) (List.mem_of_getElem? (i := 3) rfl) (fun _ h => h) rfl (by decide +kernel) rfl rfl (Nat.le_of_ble_eq_true rfl) dX5_passLegs_56 (fun H locs G => ?_)
      refine lv_aload_n S.1 S.2.1 dX5_passLegs_59 rfl (lv_at hl 5 rfl) ?_
      refine lv_aload_n S.1 S.2.1 dX5_passLegs_60 rfl (lv_at hl 5 rfl) ?_
      refine s_callV (C := RX5) (As := []) (rest := [.ref (E.2.2.2 B)]) (i := B) (kd := 5) S hX G (k_X5_driveOfStates l E B r_3 r_4 hB ((up_ne (by omega)).trans ((up_ne (by omega)).trans up_eq)) ((up_ne (by omega)).trans up_eq)) (cwV (bytes := cX5_driveOfStates) (maxL := 1) (ret := (some .int)) 0 S.2.2.2.2 gX5_passLegs_X5_driveOfStates rfl rfl rfl (by decide +kernel) ⟨Nat.le_of_ble_eq_true rfl, Nat.le_of_ble_eq_true rfl⟩) (hB 0 (by decide)) rfl rfl rfl (by decide) rfl hl.1 rfl (Nat.le_of_ble_eq_true rfl) ⟨Nat.zero_le _, Nat.zero_le _⟩ dX5_passLegs_61 (fun v I1 L1 H locs hR G => ?_)
      obtain ⟨hv, hI, hL⟩ := hR
      subst hv
      have G : GS E (up (up (up I (B + 1) r_3) (B + 2) r_4) B (upd b 8 (sv 1))) L sg H locs := G.same hI hL
      refine W.eq (g2 := F0 mg 64 ls [.int (drvF r_3 r_4), .ref (E.2.2.2 B)]) rfl ?_
      refine lv_topi (fun y_17 ey_17 => ?_)
      refine s_put S hX G (i := B) (kd := 5) (a := (upd b 8 (sv 1))) (a' := (upd (upd b 8 (sv 1)) 9 y_17)) (I' := (up (up (up I (B + 1) r_3) (B + 2) r_4) B (upd (upd b 8 (sv 1)) 9 y_17))) (v := .int y_17) (ty := .int) (ty0 := tyX5) (C := RX5) (T := TX5) (N := 13) 9 (hB 0 (by decide)) up_eq rfl rfl (by rw [up_up]) (by decide) rfl (fun _ h => (List.mem_cons_of_mem _ (List.mem_append_left _ (List.mem_append_left _ (List.mem_append_left _ (List.mem_append_right _ h)))))) tyX5_ok nmX5 (by decide) (List.mem_of_getElem? (i := 4) rfl) (fun _ h => h) rfl (by decide +kernel) rfl rfl (Nat.le_of_ble_eq_true rfl) dX5_passLegs_64 (fun H locs G => ?_)
      refine lv_aload_n S.1 S.2.1 dX5_passLegs_67 rfl (lv_at hl 5 rfl) ?_
      refine lv_aload_n S.1 S.2.1 dX5_passLegs_68 rfl (lv_at hl 5 rfl) ?_
      refine s_get S hX G (i := B) (kd := 5) (a := (upd (upd b 8 (sv 1)) 9 y_17)) (v := .int y_17) (C := RX5) (T := TX5) (N := 13) 9 (hB 0 (by decide)) up_eq rfl rfl (by decide) rfl (fun _ h => (List.mem_cons_of_mem _ (List.mem_append_left _ (List.mem_append_left _ (List.mem_append_left _ (List.mem_append_right _ h)))))) (by decide) (List.mem_of_getElem? (i := 4) rfl) (fun _ h => h) dX5_passLegs_69 ?_
      refine lv_iconst (v := (1 : Int32)) S.1 S.2.1 dX5_passLegs_72 (by decide) ?_
      refine lv_icmp_eq (tgt := 84) S.1 S.2.1 dX5_passLegs_73 (by decide) (fun c_18 => ?_) (fun c_18 => ?_)
      · refine lv_aload_n S.1 S.2.1 dX5_passLegs_84 rfl (lv_at hl 5 rfl) ?_
        refine s_get S hX G (i := B) (kd := 5) (a := (upd (upd b 8 (sv 1)) 9 y_17)) (v := .int (b 10)) (C := RX5) (T := TX5) (N := 13) 10 (hB 0 (by decide)) up_eq rfl rfl (by decide) rfl (fun _ h => (List.mem_cons_of_mem _ (List.mem_append_left _ (List.mem_append_left _ (List.mem_append_left _ (List.mem_append_right _ h)))))) (by decide) (List.mem_of_getElem? (i := 5) rfl) (fun _ h => h) dX5_passLegs_85 ?_
        refine lv_iconst (v := (1 : Int32)) S.1 S.2.1 dX5_passLegs_88 (by decide) ?_
        refine s_iadd (v := ((b 10) + (1 : Int32))) S dX5_passLegs_89 rfl ?_
        refine lv_goto (tgt := 94) S.1 S.2.1 dX5_passLegs_90 (by decide) ?_
        refine lv_topi (fun y_19 ey_19 => ?_)
        refine s_put S hX G (i := B) (kd := 5) (a := (upd (upd b 8 (sv 1)) 9 y_17)) (a' := (upd (upd (upd b 8 (sv 1)) 9 y_17) 10 y_19)) (I' := (up (up (up I (B + 1) r_3) (B + 2) r_4) B (upd (upd (upd b 8 (sv 1)) 9 y_17) 10 y_19))) (v := .int y_19) (ty := .int) (ty0 := tyX5) (C := RX5) (T := TX5) (N := 13) 10 (hB 0 (by decide)) up_eq rfl rfl (by rw [up_up]) (by decide) rfl (fun _ h => (List.mem_cons_of_mem _ (List.mem_append_left _ (List.mem_append_left _ (List.mem_append_left _ (List.mem_append_right _ h)))))) tyX5_ok nmX5 (by decide) (List.mem_of_getElem? (i := 5) rfl) (fun _ h => h) rfl (by decide +kernel) rfl rfl (Nat.le_of_ble_eq_true rfl) dX5_passLegs_94 (fun H locs G => ?_)
        refine s_vret S G hr hlk dX5_passLegs_97 ?_
        exact ⟨rfl, (st_eq3 (Eq.trans up_eq (show (upd (upd (upd b 8 (sv 1)) 9 y_17) 10 y_19) = (legsF b p q n sv) by subst ey_19 ey_17 er_4 er_3 ey_2 ey_1; (first | (simp [legsF, c_5, c_11, c_18]; done) | (clear S hX G hl; grind [legsF])))) (Eq.trans ((up_ne (by omega)).trans ((up_ne (by omega)).trans up_eq)) (show r_3 = (legF p (fWishF b p q n) (sv 0)) by subst ey_19 ey_17 er_4 er_3 ey_2 ey_1; (first | (simp [legsF, c_5, c_11, c_18]; done) | (clear S hX G hl; grind [legsF])))) (Eq.trans ((up_ne (by omega)).trans up_eq) (show r_4 = (legF q (sWishF q n) (sv 0)) by subst ey_19 ey_17 er_4 er_3 ey_2 ey_1; (first | (simp [legsF, c_5, c_11, c_18]; done) | (clear S hX G hl; grind [legsF])))) (fun _ g0 g1 g2 => ((up_ne g0).trans ((up_ne g2).trans (up_ne g1))))), rfl⟩
      · refine lv_aload_n S.1 S.2.1 dX5_passLegs_76 rfl (lv_at hl 5 rfl) ?_
        refine s_get S hX G (i := B) (kd := 5) (a := (upd (upd b 8 (sv 1)) 9 y_17)) (v := .int y_17) (C := RX5) (T := TX5) (N := 13) 9 (hB 0 (by decide)) up_eq rfl rfl (by decide) rfl (fun _ h => (List.mem_cons_of_mem _ (List.mem_append_left _ (List.mem_append_left _ (List.mem_append_left _ (List.mem_append_right _ h)))))) (by decide) (List.mem_of_getElem? (i := 4) rfl) (fun _ h => h) dX5_passLegs_77 ?_
        refine lv_iconst (v := (-1 : Int32)) S.1 S.2.1 dX5_passLegs_80 (by decide) ?_
        refine lv_icmp_ne (tgt := 93) S.1 S.2.1 dX5_passLegs_81 (by decide) (fun c_20 => ?_) (fun c_20 => ?_)
        · refine lv_iconst (v := (0 : Int32)) S.1 S.2.1 dX5_passLegs_93 (by decide) ?_
          refine s_put S hX G (i := B) (kd := 5) (a := (upd (upd b 8 (sv 1)) 9 y_17)) (a' := (upd (upd (upd b 8 (sv 1)) 9 y_17) 10 (0 : Int32))) (I' := (up (up (up I (B + 1) r_3) (B + 2) r_4) B (upd (upd (upd b 8 (sv 1)) 9 y_17) 10 (0 : Int32)))) (v := .int (0 : Int32)) (ty := .int) (ty0 := tyX5) (C := RX5) (T := TX5) (N := 13) 10 (hB 0 (by decide)) up_eq rfl rfl (by rw [up_up]) (by decide) rfl (fun _ h => (List.mem_cons_of_mem _ (List.mem_append_left _ (List.mem_append_left _ (List.mem_append_left _ (List.mem_append_right _ h)))))) tyX5_ok nmX5 (by decide) (List.mem_of_getElem? (i := 5) rfl) (fun _ h => h) rfl (by decide +kernel) rfl rfl (Nat.le_of_ble_eq_true rfl) dX5_passLegs_94 (fun H locs G => ?_)
          refine s_vret S G hr hlk dX5_passLegs_97 ?_
          exact ⟨rfl, (st_eq3 (Eq.trans up_eq (show (upd (upd (upd b 8 (sv 1)) 9 y_17) 10 (0 : Int32)) = (legsF b p q n sv) by subst ey_17 er_4 er_3 ey_2 ey_1; (first | (simp [legsF, c_5, c_11, c_18, c_20]; done) | (clear S hX G hl; grind [legsF])))) (Eq.trans ((up_ne (by omega)).trans ((up_ne (by omega)).trans up_eq)) (show r_3 = (legF p (fWishF b p q n) (sv 0)) by subst ey_17 er_4 er_3 ey_2 ey_1; (first | (simp [legsF, c_5, c_11, c_18, c_20]; done) | (clear S hX G hl; grind [legsF])))) (Eq.trans ((up_ne (by omega)).trans up_eq) (show r_4 = (legF q (sWishF q n) (sv 0)) by subst ey_17 er_4 er_3 ey_2 ey_1; (first | (simp [legsF, c_5, c_11, c_18, c_20]; done) | (clear S hX G hl; grind [legsF])))) (fun _ g0 g1 g2 => ((up_ne g0).trans ((up_ne g2).trans (up_ne g1))))), rfl⟩
        · refine lv_aload_n S.1 S.2.1 dX5_passLegs_84 rfl (lv_at hl 5 rfl) ?_
          refine s_get S hX G (i := B) (kd := 5) (a := (upd (upd b 8 (sv 1)) 9 y_17)) (v := .int (b 10)) (C := RX5) (T := TX5) (N := 13) 10 (hB 0 (by decide)) up_eq rfl rfl (by decide) rfl (fun _ h => (List.mem_cons_of_mem _ (List.mem_append_left _ (List.mem_append_left _ (List.mem_append_left _ (List.mem_append_right _ h)))))) (by decide) (List.mem_of_getElem? (i := 5) rfl) (fun _ h => h) dX5_passLegs_85 ?_
          refine lv_iconst (v := (1 : Int32)) S.1 S.2.1 dX5_passLegs_88 (by decide) ?_
          refine s_iadd (v := ((b 10) + (1 : Int32))) S dX5_passLegs_89 rfl ?_
          refine lv_goto (tgt := 94) S.1 S.2.1 dX5_passLegs_90 (by decide) ?_
          refine lv_topi (fun y_21 ey_21 => ?_)
          refine s_put S hX G (i := B) (kd := 5) (a := (upd (upd b 8 (sv 1)) 9 y_17)) (a' := (upd (upd (upd b 8 (sv 1)) 9 y_17) 10 y_21)) (I' := (up (up (up I (B + 1) r_3) (B + 2) r_4) B (upd (upd (upd b 8 (sv 1)) 9 y_17) 10 y_21))) (v := .int y_21) (ty := .int) (ty0 := tyX5) (C := RX5) (T := TX5) (N := 13) 10 (hB 0 (by decide)) up_eq rfl rfl (by rw [up_up]) (by decide) rfl (fun _ h => (List.mem_cons_of_mem _ (List.mem_append_left _ (List.mem_append_left _ (List.mem_append_left _ (List.mem_append_right _ h)))))) tyX5_ok nmX5 (by decide) (List.mem_of_getElem? (i := 5) rfl) (fun _ h => h) rfl (by decide +kernel) rfl rfl (Nat.le_of_ble_eq_true rfl) dX5_passLegs_94 (fun H locs G => ?_)
          refine s_vret S G hr hlk dX5_passLegs_97 ?_
          exact ⟨rfl, (st_eq3 (Eq.trans up_eq (show (upd (upd (upd b 8 (sv 1)) 9 y_17) 10 y_21) = (legsF b p q n sv) by subst ey_21 ey_17 er_4 er_3 ey_2 ey_1; (first | (simp [legsF, c_5, c_11, c_18, c_20]; done) | (clear S hX G hl; grind [legsF])))) (Eq.trans ((up_ne (by omega)).trans ((up_ne (by omega)).trans up_eq)) (show r_3 = (legF p (fWishF b p q n) (sv 0)) by subst ey_21 ey_17 er_4 er_3 ey_2 ey_1; (first | (simp [legsF, c_5, c_11, c_18, c_20]; done) | (clear S hX G hl; grind [legsF])))) (Eq.trans ((up_ne (by omega)).trans up_eq) (show r_4 = (legF q (sWishF q n) (sv 0)) by subst ey_21 ey_17 er_4 er_3 ey_2 ey_1; (first | (simp [legsF, c_5, c_11, c_18, c_20]; done) | (clear S hX G hl; grind [legsF])))) (fun _ g0 g1 g2 => ((up_ne g0).trans ((up_ne g2).trans (up_ne g1))))), rfl⟩
set_option maxHeartbeats 4000000 in
set_option maxRecDepth 100000 in
theorem k_X5_passCurrent (l : Launch) (E : Ev) {I : SI} {L : SL} (B : Nat) (b : Nat → Int32) (dv : Nat → Int32) (lb : Nat → Int64) (hB : IsLd B) (e_b : I (B) = b) (e_dv : I (B+4) = dv) (e_lb : L (B) = lb) : CS l yX5_passCurrent wsX5_passCurrent ({ frames := 2, cells := 0, slots := 0, locals := 42 }) E [.ref (E.2.2.2 B)] I L (fun vv I' L' => vv = none ∧ I' = (up I (B) (upd b 4 (curF b dv))) ∧ L' = (upL L (B) (vp_updL lb 12 (lb 12 + Int32.toInt64 (absI (curF b dv)))))) := by
  refine CS.of (cc := cX5_passCurrent) (maxL := 3) (ret := none) (by decide) rfl (Nat.le_of_ble_eq_true rfl) ?_
  intro pg en sg mg below meth cg ls S hr hlk hX G hl
  have S : CallFix pg mg cg cX5_passCurrent 3 sg _ wsX5_passCurrent RX5 := S
  have hl : lv_has ls 3 [(0, .ref (E.2.2.2 B))] := hl
  refine lv_aload_n S.1 S.2.1 dX5_passCurrent_0 rfl (lv_at hl 0 rfl) ?_
  refine s_get S hX G (i := B) (kd := 5) (a := b) (v := .ref (E.2.2.2 (B + 3))) (C := RX5) (T := TX5) (N := 13) 2 (hB 0 (by decide)) e_b rfl rfl (by decide) rfl (fun _ h => (List.mem_cons_of_mem _ (List.mem_append_left _ (List.mem_append_right _ h)))) (by decide) (List.mem_of_getElem? (i := 1) rfl) (fun _ h => h) dX5_passCurrent_1 ?_
  refine lv_iconst (v := (0 : Int32)) S.1 S.2.1 dX5_passCurrent_4 (by decide) ?_
  refine s_callV (C := RX1) (As := [.int (0 : Int32)]) (rest := []) (i := (B + 3)) (kd := 1) S hX G (k_X1_value4_0 l E (B + 3) dv (hB 3 (by decide)) (hB 4 (by decide)) e_dv) (cwV (bytes := cX1_value) (maxL := 2) (ret := (some .int)) 1 S.2.2.2.2 gX5_passCurrent_X1_value rfl rfl rfl (by decide +kernel) ⟨Nat.le_of_ble_eq_true rfl, Nat.le_of_ble_eq_true rfl⟩) (hB 3 (by decide)) rfl rfl rfl (by decide) rfl hl.1 rfl (Nat.le_of_ble_eq_true rfl) ⟨Nat.zero_le _, Nat.zero_le _⟩ dX5_passCurrent_5 (fun v I1 L1 H locs hR G => ?_)
  obtain ⟨hv, hI, hL⟩ := hR
  subst hv
  have G : GS E I L sg H locs := G.same hI hL
  refine W.eq (g2 := F0 mg 8 ls [.int (dv 0)]) rfl ?_
  refine lv_istore_n (lv' := [(1, .int (dv 0)), (0, .ref (E.2.2.2 B))]) S.1 S.2.1 dX5_passCurrent_8 rfl hl (by decide) rfl (fun ls hl => ?_)
  refine lv_aload_n S.1 S.2.1 dX5_passCurrent_9 rfl (lv_at hl 1 rfl) ?_
  refine s_get S hX G (i := B) (kd := 5) (a := b) (v := .ref (E.2.2.2 (B + 3))) (C := RX5) (T := TX5) (N := 13) 2 (hB 0 (by decide)) e_b rfl rfl (by decide) rfl (fun _ h => (List.mem_cons_of_mem _ (List.mem_append_left _ (List.mem_append_right _ h)))) (by decide) (List.mem_of_getElem? (i := 1) rfl) (fun _ h => h) dX5_passCurrent_10 ?_
  refine lv_iconst (v := (1 : Int32)) S.1 S.2.1 dX5_passCurrent_13 (by decide) ?_
  refine s_callV (C := RX1) (As := [.int (1 : Int32)]) (rest := []) (i := (B + 3)) (kd := 1) S hX G (k_X1_value4_1 l E (B + 3) dv (hB 3 (by decide)) (hB 4 (by decide)) e_dv) (cwV (bytes := cX1_value) (maxL := 2) (ret := (some .int)) 1 S.2.2.2.2 gX5_passCurrent_X1_value rfl rfl rfl (by decide +kernel) ⟨Nat.le_of_ble_eq_true rfl, Nat.le_of_ble_eq_true rfl⟩) (hB 3 (by decide)) rfl rfl rfl (by decide) rfl hl.1 rfl (Nat.le_of_ble_eq_true rfl) ⟨Nat.zero_le _, Nat.zero_le _⟩ dX5_passCurrent_14 (fun v I1 L1 H locs hR G => ?_)
  obtain ⟨hv, hI, hL⟩ := hR
  subst hv
  have G : GS E I L sg H locs := G.same hI hL
  refine W.eq (g2 := F0 mg 17 ls [.int (dv 1)]) rfl ?_
  refine lv_istore_n (lv' := [(2, .int (dv 1)), (1, .int (dv 0)), (0, .ref (E.2.2.2 B))]) S.1 S.2.1 dX5_passCurrent_17 rfl hl (by decide) rfl (fun ls hl => ?_)
  refine lv_aload_n S.1 S.2.1 dX5_passCurrent_18 rfl (lv_at hl 2 rfl) ?_
  refine s_get S hX G (i := B) (kd := 5) (a := b) (v := .int (b 9)) (C := RX5) (T := TX5) (N := 13) 9 (hB 0 (by decide)) e_b rfl rfl (by decide) rfl (fun _ h => (List.mem_cons_of_mem _ (List.mem_append_left _ (List.mem_append_right _ h)))) (by decide) (List.mem_of_getElem? (i := 2) rfl) (fun _ h => h) dX5_passCurrent_19 ?_
  refine lv_iconst (v := (2 : Int32)) S.1 S.2.1 dX5_passCurrent_22 (by decide) ?_
  refine lv_icmp_ne (tgt := 43) S.1 S.2.1 dX5_passCurrent_23 (by decide) (fun c_1 => ?_) (fun c_1 => ?_)
  · refine lv_aload_n S.1 S.2.1 dX5_passCurrent_43 rfl (lv_at hl 2 rfl) ?_
    refine lv_aload_n S.1 S.2.1 dX5_passCurrent_44 rfl (lv_at hl 2 rfl) ?_
    refine s_get S hX G (i := B) (kd := 5) (a := b) (v := .int (b 4)) (C := RX5) (T := TX5) (N := 13) 4 (hB 0 (by decide)) e_b rfl rfl (by decide) rfl (fun _ h => (List.mem_cons_of_mem _ (List.mem_append_left _ (List.mem_append_right _ h)))) (by decide) (List.mem_of_getElem? (i := 3) rfl) (fun _ h => h) dX5_passCurrent_45 ?_
    refine lv_iload_n S.1 S.2.1 dX5_passCurrent_48 rfl (lv_at hl 1 rfl) ?_
    refine lv_aload_n S.1 S.2.1 dX5_passCurrent_49 rfl (lv_at hl 2 rfl) ?_
    refine s_get S hX G (i := B) (kd := 5) (a := b) (v := .int (b 9)) (C := RX5) (T := TX5) (N := 13) 9 (hB 0 (by decide)) e_b rfl rfl (by decide) rfl (fun _ h => (List.mem_cons_of_mem _ (List.mem_append_left _ (List.mem_append_right _ h)))) (by decide) (List.mem_of_getElem? (i := 2) rfl) (fun _ h => h) dX5_passCurrent_50 ?_
    refine s_imul (v := ((dv 0) * (b 9))) S dX5_passCurrent_53 rfl ?_
    refine s_iadd (v := ((b 4) + ((dv 0) * (b 9)))) S dX5_passCurrent_54 rfl ?_
    refine lv_iload_n S.1 S.2.1 dX5_passCurrent_55 rfl (lv_at hl 0 rfl) ?_
    refine s_callS (As := [.int ((b 4) + ((dv 0) * (b 9))), .int (dv 1)]) (rest := [.ref (E.2.2.2 B)]) S hX G (k_X5_towardZero l E ((b 4) + ((dv 0) * (b 9))) (dv 1)) (va_cwS (bytes := cX5_towardZero) (maxL := 2) (ret := (some .int)) 2 S.2.2.2.2 gX5_passCurrent_X5_towardZero rfl rfl rfl (by decide +kernel) ⟨Nat.le_of_ble_eq_true rfl, Nat.le_of_ble_eq_true rfl⟩) rfl hl.1 rfl (Nat.le_of_ble_eq_true rfl) ⟨Nat.zero_le _, Nat.zero_le _⟩ dX5_passCurrent_56 (fun v I1 L1 H locs hR G => ?_)
    obtain ⟨hv, hI, hL⟩ := hR
    subst hv
    have G : GS E I L sg H locs := G.same hI hL
    refine W.eq (g2 := F0 mg 59 ls [.int (twz ((b 4) + ((dv 0) * (b 9))) (dv 1)), .ref (E.2.2.2 B)]) rfl ?_
    refine lv_topi (fun y_2 ey_2 => ?_)
    refine s_put S hX G (i := B) (kd := 5) (a := b) (a' := (upd b 4 y_2)) (I' := (up I B (upd b 4 y_2))) (v := .int y_2) (ty := .int) (ty0 := tyX5) (C := RX5) (T := TX5) (N := 13) 4 (hB 0 (by decide)) e_b rfl rfl rfl (by decide) rfl (fun _ h => (List.mem_cons_of_mem _ (List.mem_append_left _ (List.mem_append_right _ h)))) tyX5_ok nmX5 (by decide) (List.mem_of_getElem? (i := 3) rfl) (fun _ h => h) rfl (by decide +kernel) rfl rfl (Nat.le_of_ble_eq_true rfl) dX5_passCurrent_59 (fun H locs G => ?_)
    refine lv_aload_n S.1 S.2.1 dX5_passCurrent_62 rfl (lv_at hl 2 rfl) ?_
    refine lv_ldc (v := (-1000000 : Int32)) S.1 S.2.1 S.2.2.2.1 (S.2.2.2.2 _ (List.mem_of_getElem? (i := 4) rfl)) dX5_passCurrent_63 ?_
    refine lv_ldc (v := (1000000 : Int32)) S.1 S.2.1 S.2.2.2.1 (S.2.2.2.2 _ (List.mem_of_getElem? (i := 5) rfl)) dX5_passCurrent_65 ?_
    refine lv_aload_n S.1 S.2.1 dX5_passCurrent_67 rfl (lv_at hl 2 rfl) ?_
    refine s_get S hX G (i := B) (kd := 5) (a := (upd b 4 y_2)) (v := .int y_2) (C := RX5) (T := TX5) (N := 13) 4 (hB 0 (by decide)) up_eq rfl rfl (by decide) rfl (fun _ h => (List.mem_cons_of_mem _ (List.mem_append_left _ (List.mem_append_right _ h)))) (by decide) (List.mem_of_getElem? (i := 3) rfl) (fun _ h => h) dX5_passCurrent_68 ?_
    refine va_mmin (rest := [.int (-1000000 : Int32), .ref (E.2.2.2 B)]) S.1 S.2.1 (S.2.2.1.trans hl.1.symm) S.2.2.2.1 (S.2.2.2.2 _ (List.mem_of_getElem? (i := 6) rfl)) (S.2.2.2.2 _ (List.mem_of_getElem? (i := 7) rfl)) (S.2.2.2.2 _ (List.mem_of_getElem? (i := 8) rfl)) (S.2.2.2.2 _ (List.mem_of_getElem? (i := 9) rfl)) (Nat.le_of_ble_eq_true rfl) (Nat.le_of_ble_eq_true rfl) (Nat.zero_le _) (Nat.zero_le _) dX5_passCurrent_71 ?_
    refine W.eq (g2 := F0 mg 74 ls [.int (minI (1000000 : Int32) y_2), .int (-1000000 : Int32), .ref (E.2.2.2 B)]) rfl ?_
    refine lv_topi (fun y_3 ey_3 => ?_)
    refine va_mmax (rest := [.ref (E.2.2.2 B)]) S.1 S.2.1 (S.2.2.1.trans hl.1.symm) S.2.2.2.1 (S.2.2.2.2 _ (List.mem_of_getElem? (i := 10) rfl)) (S.2.2.2.2 _ (List.mem_of_getElem? (i := 11) rfl)) (S.2.2.2.2 _ (List.mem_of_getElem? (i := 8) rfl)) (S.2.2.2.2 _ (List.mem_of_getElem? (i := 12) rfl)) (Nat.le_of_ble_eq_true rfl) (Nat.le_of_ble_eq_true rfl) (Nat.zero_le _) (Nat.zero_le _) dX5_passCurrent_74 ?_
    refine W.eq (g2 := F0 mg 77 ls [.int (maxI (-1000000 : Int32) y_3), .ref (E.2.2.2 B)]) rfl ?_
    refine lv_topi (fun y_4 ey_4 => ?_)
    refine s_put S hX G (i := B) (kd := 5) (a := (upd b 4 y_2)) (a' := (upd (upd b 4 y_2) 4 y_4)) (I' := (up I B (upd (upd b 4 y_2) 4 y_4))) (v := .int y_4) (ty := .int) (ty0 := tyX5) (C := RX5) (T := TX5) (N := 13) 4 (hB 0 (by decide)) up_eq rfl rfl (by rw [up_up]) (by decide) rfl (fun _ h => (List.mem_cons_of_mem _ (List.mem_append_left _ (List.mem_append_right _ h)))) tyX5_ok nmX5 (by decide) (List.mem_of_getElem? (i := 3) rfl) (fun _ h => h) rfl (by decide +kernel) rfl rfl (Nat.le_of_ble_eq_true rfl) dX5_passCurrent_77 (fun H locs G => ?_)
    refine lv_aload_n S.1 S.2.1 dX5_passCurrent_80 rfl (lv_at hl 2 rfl) ?_
    refine lv_dup S.1 S.2.1 dX5_passCurrent_81 rfl ?_
    refine s_getl S hX G (i := B) (kd := 5) (b := lb) (v := .long (lb 12)) (C := RX5) (T := TX5) (N := 13) 12 (hB 0 (by decide)) e_lb rfl rfl (by decide) rfl (fun _ h => (List.mem_cons_of_mem _ (List.mem_append_left _ (List.mem_append_right _ h)))) (by decide) (List.mem_of_getElem? (i := 13) rfl) (fun _ h => h) dX5_passCurrent_82 ?_
    refine lv_aload_n S.1 S.2.1 dX5_passCurrent_85 rfl (lv_at hl 2 rfl) ?_
    refine s_callV (C := RX5) (As := []) (rest := [.long (lb 12), .ref (E.2.2.2 B)]) (i := B) (kd := 5) S hX G (k_X5_size l E B (upd (upd b 4 y_2) 4 y_4) hB up_eq) (cwV (bytes := cX5_size) (maxL := 1) (ret := (some .int)) 0 S.2.2.2.2 gX5_passCurrent_X5_size rfl rfl rfl (by decide +kernel) ⟨Nat.le_of_ble_eq_true rfl, Nat.le_of_ble_eq_true rfl⟩) (hB 0 (by decide)) rfl rfl rfl (by decide) rfl hl.1 rfl (Nat.le_of_ble_eq_true rfl) ⟨Nat.zero_le _, Nat.zero_le _⟩ dX5_passCurrent_86 (fun v I1 L1 H locs hR G => ?_)
    obtain ⟨hv, hI, hL⟩ := hR
    subst hv
    have G : GS E (up I B (upd (upd b 4 y_2) 4 y_4)) L sg H locs := G.same hI hL
    refine W.eq (g2 := F0 mg 89 ls [.int (absI ((upd (upd b 4 y_2) 4 y_4) 4)), .long (lb 12), .ref (E.2.2.2 B)]) rfl ?_
    refine lv_topi (fun y_5 ey_5 => ?_)
    refine lv_i2l (v := (Int32.toInt64 y_5)) S.1 S.2.1 dX5_passCurrent_89 rfl ?_
    refine s_ladd (v := ((lb 12) + (Int32.toInt64 y_5))) S dX5_passCurrent_90 rfl ?_
    refine lv_topl (fun y_6 ey_6 => ?_)
    refine s_putl S hX G (i := B) (kd := 5) (b := lb) (b' := (vp_updL lb 12 y_6)) (L' := (upL L B (vp_updL lb 12 y_6))) (v := .long y_6) (ty := .long) (ty0 := tyX5) (C := RX5) (T := TX5) (N := 13) 12 (hB 0 (by decide)) e_lb rfl rfl rfl (by decide) rfl (fun _ h => (List.mem_cons_of_mem _ (List.mem_append_left _ (List.mem_append_right _ h)))) tyX5_ok nmX5 (by decide) (List.mem_of_getElem? (i := 13) rfl) (fun _ h => h) rfl (by decide +kernel) rfl rfl (Nat.le_of_ble_eq_true rfl) dX5_passCurrent_91 (fun H locs G => ?_)
    refine s_vret S G hr hlk dX5_passCurrent_94 ?_
    exact ⟨rfl, (st_eq1 (Eq.trans up_eq (show (upd (upd b 4 y_2) 4 y_4) = (upd b 4 (curF b dv)) by subst ey_6 ey_5 ey_4 ey_3 ey_2; (first | (funext z; by_cases hz : z = 4 <;> simp [upd, hz, curF, c_1]; done) | (simp [curF, c_1]; done) | (funext z; by_cases hz : z = 12 <;> simp [vp_updL, hz, curF, c_1]; done)))) (fun _ g0 => (up_ne g0))), (lt_eq1 (Eq.trans upL_eq (show (vp_updL lb 12 y_6) = (vp_updL lb 12 (lb 12 + Int32.toInt64 (absI (curF b dv)))) by subst ey_6 ey_5 ey_4 ey_3 ey_2; (first | (funext z; by_cases hz : z = 4 <;> simp [upd, hz, curF, c_1]; done) | (simp [curF, c_1]; done) | (funext z; by_cases hz : z = 12 <;> simp [vp_updL, hz, curF, c_1]; done)))) (fun _ g0 => (upL_ne g0)))⟩
  · refine lv_aload_n S.1 S.2.1 dX5_passCurrent_26 rfl (lv_at hl 2 rfl) ?_
    refine lv_aload_n S.1 S.2.1 dX5_passCurrent_27 rfl (lv_at hl 2 rfl) ?_
    refine s_get S hX G (i := B) (kd := 5) (a := b) (v := .int (b 4)) (C := RX5) (T := TX5) (N := 13) 4 (hB 0 (by decide)) e_b rfl rfl (by decide) rfl (fun _ h => (List.mem_cons_of_mem _ (List.mem_append_left _ (List.mem_append_right _ h)))) (by decide) (List.mem_of_getElem? (i := 3) rfl) (fun _ h => h) dX5_passCurrent_28 ?_
    refine lv_iload_n S.1 S.2.1 dX5_passCurrent_31 rfl (lv_at hl 1 rfl) ?_
    refine lv_iload_n S.1 S.2.1 dX5_passCurrent_32 rfl (lv_at hl 0 rfl) ?_
    refine s_iadd (v := ((dv 0) + (dv 1))) S dX5_passCurrent_33 rfl ?_
    refine s_callS (As := [.int (b 4), .int ((dv 0) + (dv 1))]) (rest := [.ref (E.2.2.2 B)]) S hX G (k_X5_towardZero l E (b 4) ((dv 0) + (dv 1))) (va_cwS (bytes := cX5_towardZero) (maxL := 2) (ret := (some .int)) 2 S.2.2.2.2 gX5_passCurrent_X5_towardZero rfl rfl rfl (by decide +kernel) ⟨Nat.le_of_ble_eq_true rfl, Nat.le_of_ble_eq_true rfl⟩) rfl hl.1 rfl (Nat.le_of_ble_eq_true rfl) ⟨Nat.zero_le _, Nat.zero_le _⟩ dX5_passCurrent_34 (fun v I1 L1 H locs hR G => ?_)
    obtain ⟨hv, hI, hL⟩ := hR
    subst hv
    have G : GS E I L sg H locs := G.same hI hL
    refine W.eq (g2 := F0 mg 37 ls [.int (twz (b 4) ((dv 0) + (dv 1))), .ref (E.2.2.2 B)]) rfl ?_
    refine lv_topi (fun y_7 ey_7 => ?_)
    refine s_put S hX G (i := B) (kd := 5) (a := b) (a' := (upd b 4 y_7)) (I' := (up I B (upd b 4 y_7))) (v := .int y_7) (ty := .int) (ty0 := tyX5) (C := RX5) (T := TX5) (N := 13) 4 (hB 0 (by decide)) e_b rfl rfl rfl (by decide) rfl (fun _ h => (List.mem_cons_of_mem _ (List.mem_append_left _ (List.mem_append_right _ h)))) tyX5_ok nmX5 (by decide) (List.mem_of_getElem? (i := 3) rfl) (fun _ h => h) rfl (by decide +kernel) rfl rfl (Nat.le_of_ble_eq_true rfl) dX5_passCurrent_37 (fun H locs G => ?_)
    refine lv_goto (tgt := 62) S.1 S.2.1 dX5_passCurrent_40 (by decide) ?_
    refine lv_aload_n S.1 S.2.1 dX5_passCurrent_62 rfl (lv_at hl 2 rfl) ?_
    refine lv_ldc (v := (-1000000 : Int32)) S.1 S.2.1 S.2.2.2.1 (S.2.2.2.2 _ (List.mem_of_getElem? (i := 4) rfl)) dX5_passCurrent_63 ?_
    refine lv_ldc (v := (1000000 : Int32)) S.1 S.2.1 S.2.2.2.1 (S.2.2.2.2 _ (List.mem_of_getElem? (i := 5) rfl)) dX5_passCurrent_65 ?_
    refine lv_aload_n S.1 S.2.1 dX5_passCurrent_67 rfl (lv_at hl 2 rfl) ?_
    refine s_get S hX G (i := B) (kd := 5) (a := (upd b 4 y_7)) (v := .int y_7) (C := RX5) (T := TX5) (N := 13) 4 (hB 0 (by decide)) up_eq rfl rfl (by decide) rfl (fun _ h => (List.mem_cons_of_mem _ (List.mem_append_left _ (List.mem_append_right _ h)))) (by decide) (List.mem_of_getElem? (i := 3) rfl) (fun _ h => h) dX5_passCurrent_68 ?_
    refine va_mmin (rest := [.int (-1000000 : Int32), .ref (E.2.2.2 B)]) S.1 S.2.1 (S.2.2.1.trans hl.1.symm) S.2.2.2.1 (S.2.2.2.2 _ (List.mem_of_getElem? (i := 6) rfl)) (S.2.2.2.2 _ (List.mem_of_getElem? (i := 7) rfl)) (S.2.2.2.2 _ (List.mem_of_getElem? (i := 8) rfl)) (S.2.2.2.2 _ (List.mem_of_getElem? (i := 9) rfl)) (Nat.le_of_ble_eq_true rfl) (Nat.le_of_ble_eq_true rfl) (Nat.zero_le _) (Nat.zero_le _) dX5_passCurrent_71 ?_
    refine W.eq (g2 := F0 mg 74 ls [.int (minI (1000000 : Int32) y_7), .int (-1000000 : Int32), .ref (E.2.2.2 B)]) rfl ?_
    refine lv_topi (fun y_8 ey_8 => ?_)
    refine va_mmax (rest := [.ref (E.2.2.2 B)]) S.1 S.2.1 (S.2.2.1.trans hl.1.symm) S.2.2.2.1 (S.2.2.2.2 _ (List.mem_of_getElem? (i := 10) rfl)) (S.2.2.2.2 _ (List.mem_of_getElem? (i := 11) rfl)) (S.2.2.2.2 _ (List.mem_of_getElem? (i := 8) rfl)) (S.2.2.2.2 _ (List.mem_of_getElem? (i := 12) rfl)) (Nat.le_of_ble_eq_true rfl) (Nat.le_of_ble_eq_true rfl) (Nat.zero_le _) (Nat.zero_le _) dX5_passCurrent_74 ?_
    refine W.eq (g2 := F0 mg 77 ls [.int (maxI (-1000000 : Int32) y_8), .ref (E.2.2.2 B)]) rfl ?_
    refine lv_topi (fun y_9 ey_9 => ?_)
    refine s_put S hX G (i := B) (kd := 5) (a := (upd b 4 y_7)) (a' := (upd (upd b 4 y_7) 4 y_9)) (I' := (up I B (upd (upd b 4 y_7) 4 y_9))) (v := .int y_9) (ty := .int) (ty0 := tyX5) (C := RX5) (T := TX5) (N := 13) 4 (hB 0 (by decide)) up_eq rfl rfl (by rw [up_up]) (by decide) rfl (fun _ h => (List.mem_cons_of_mem _ (List.mem_append_left _ (List.mem_append_right _ h)))) tyX5_ok nmX5 (by decide) (List.mem_of_getElem? (i := 3) rfl) (fun _ h => h) rfl (by decide +kernel) rfl rfl (Nat.le_of_ble_eq_true rfl) dX5_passCurrent_77 (fun H locs G => ?_)
    refine lv_aload_n S.1 S.2.1 dX5_passCurrent_80 rfl (lv_at hl 2 rfl) ?_
    refine lv_dup S.1 S.2.1 dX5_passCurrent_81 rfl ?_
    refine s_getl S hX G (i := B) (kd := 5) (b := lb) (v := .long (lb 12)) (C := RX5) (T := TX5) (N := 13) 12 (hB 0 (by decide)) e_lb rfl rfl (by decide) rfl (fun _ h => (List.mem_cons_of_mem _ (List.mem_append_left _ (List.mem_append_right _ h)))) (by decide) (List.mem_of_getElem? (i := 13) rfl) (fun _ h => h) dX5_passCurrent_82 ?_
    refine lv_aload_n S.1 S.2.1 dX5_passCurrent_85 rfl (lv_at hl 2 rfl) ?_
    refine s_callV (C := RX5) (As := []) (rest := [.long (lb 12), .ref (E.2.2.2 B)]) (i := B) (kd := 5) S hX G (k_X5_size l E B (upd (upd b 4 y_7) 4 y_9) hB up_eq) (cwV (bytes := cX5_size) (maxL := 1) (ret := (some .int)) 0 S.2.2.2.2 gX5_passCurrent_X5_size rfl rfl rfl (by decide +kernel) ⟨Nat.le_of_ble_eq_true rfl, Nat.le_of_ble_eq_true rfl⟩) (hB 0 (by decide)) rfl rfl rfl (by decide) rfl hl.1 rfl (Nat.le_of_ble_eq_true rfl) ⟨Nat.zero_le _, Nat.zero_le _⟩ dX5_passCurrent_86 (fun v I1 L1 H locs hR G => ?_)
    obtain ⟨hv, hI, hL⟩ := hR
    subst hv
    have G : GS E (up I B (upd (upd b 4 y_7) 4 y_9)) L sg H locs := G.same hI hL
    refine W.eq (g2 := F0 mg 89 ls [.int (absI ((upd (upd b 4 y_7) 4 y_9) 4)), .long (lb 12), .ref (E.2.2.2 B)]) rfl ?_
    refine lv_topi (fun y_10 ey_10 => ?_)
    refine lv_i2l (v := (Int32.toInt64 y_10)) S.1 S.2.1 dX5_passCurrent_89 rfl ?_
    refine s_ladd (v := ((lb 12) + (Int32.toInt64 y_10))) S dX5_passCurrent_90 rfl ?_
    refine lv_topl (fun y_11 ey_11 => ?_)
    refine s_putl S hX G (i := B) (kd := 5) (b := lb) (b' := (vp_updL lb 12 y_11)) (L' := (upL L B (vp_updL lb 12 y_11))) (v := .long y_11) (ty := .long) (ty0 := tyX5) (C := RX5) (T := TX5) (N := 13) 12 (hB 0 (by decide)) e_lb rfl rfl rfl (by decide) rfl (fun _ h => (List.mem_cons_of_mem _ (List.mem_append_left _ (List.mem_append_right _ h)))) tyX5_ok nmX5 (by decide) (List.mem_of_getElem? (i := 13) rfl) (fun _ h => h) rfl (by decide +kernel) rfl rfl (Nat.le_of_ble_eq_true rfl) dX5_passCurrent_91 (fun H locs G => ?_)
    refine s_vret S G hr hlk dX5_passCurrent_94 ?_
    exact ⟨rfl, (st_eq1 (Eq.trans up_eq (show (upd (upd b 4 y_7) 4 y_9) = (upd b 4 (curF b dv)) by subst ey_11 ey_10 ey_9 ey_8 ey_7; (first | (funext z; by_cases hz : z = 4 <;> simp [upd, hz, curF, c_1]; done) | (simp [curF, c_1]; done) | (funext z; by_cases hz : z = 12 <;> simp [vp_updL, hz, curF, c_1]; done)))) (fun _ g0 => (up_ne g0))), (lt_eq1 (Eq.trans upL_eq (show (vp_updL lb 12 y_11) = (vp_updL lb 12 (lb 12 + Int32.toInt64 (absI (curF b dv)))) by subst ey_11 ey_10 ey_9 ey_8 ey_7; (first | (funext z; by_cases hz : z = 4 <;> simp [upd, hz, curF, c_1]; done) | (simp [curF, c_1]; done) | (funext z; by_cases hz : z = 12 <;> simp [vp_updL, hz, curF, c_1]; done)))) (fun _ g0 => (upL_ne g0)))⟩
set_option maxHeartbeats 4000000 in
set_option maxRecDepth 100000 in
theorem k_X5_passHeat (l : Launch) (E : Ev) {I : SI} {L : SL} (B : Nat) (cool : Int32) (b : Nat → Int32) (hB : IsLd B) (e_b : I (B) = b) : CS l yX5_passHeat wsX5_passHeat ({ frames := 2, cells := 0, slots := 0, locals := 33 }) E [.ref (E.2.2.2 B), .int cool] I L (fun vv I' L' => vv = none ∧ I' = (up I (B) (upd b 5 (heatF b cool))) ∧ L' = L) := by
  refine CS.of (cc := cX5_passHeat) (maxL := 6) (ret := none) (by decide) rfl (Nat.le_of_ble_eq_true rfl) ?_
  intro pg en sg mg below meth cg ls S hr hlk hX G hl
  have S : CallFix pg mg cg cX5_passHeat 6 sg _ wsX5_passHeat RX5 := S
  have hl : lv_has ls 6 [(0, .ref (E.2.2.2 B)), (1, .int cool)] := hl
  refine lv_aload_n S.1 S.2.1 dX5_passHeat_0 rfl (lv_at hl 0 rfl) ?_
  refine s_callV (C := RX5) (As := []) (rest := []) (i := B) (kd := 5) S hX G (k_X5_size l E B b hB e_b) (cwV (bytes := cX5_size) (maxL := 1) (ret := (some .int)) 0 S.2.2.2.2 gX5_passHeat_X5_size rfl rfl rfl (by decide +kernel) ⟨Nat.le_of_ble_eq_true rfl, Nat.le_of_ble_eq_true rfl⟩) (hB 0 (by decide)) rfl rfl rfl (by decide) rfl hl.1 rfl (Nat.le_of_ble_eq_true rfl) ⟨Nat.zero_le _, Nat.zero_le _⟩ dX5_passHeat_1 (fun v I1 L1 H locs hR G => ?_)
  obtain ⟨hv, hI, hL⟩ := hR
  subst hv
  have G : GS E I L sg H locs := G.same hI hL
  refine W.eq (g2 := F0 mg 4 ls [.int (absI (b 4))]) rfl ?_
  refine lv_topi (fun y_1 ey_1 => ?_)
  refine lv_i2l (v := (Int32.toInt64 y_1)) S.1 S.2.1 dX5_passHeat_4 rfl ?_
  refine lv_lstore_n (lv' := [(2, .long (Int32.toInt64 y_1)), (0, .ref (E.2.2.2 B)), (1, .int cool)]) S.1 S.2.1 dX5_passHeat_5 rfl hl (by decide) rfl (fun ls hl => ?_)
  refine lv_aload_n S.1 S.2.1 dX5_passHeat_6 rfl (lv_at hl 1 rfl) ?_
  refine s_get S hX G (i := B) (kd := 5) (a := b) (v := .int (b 5)) (C := RX5) (T := TX5) (N := 13) 5 (hB 0 (by decide)) e_b rfl rfl (by decide) rfl (fun _ h => (List.mem_cons_of_mem _ (List.mem_append_right _ h))) (by decide) (List.mem_of_getElem? (i := 1) rfl) (fun _ h => h) dX5_passHeat_7 ?_
  refine lv_i2l (v := (Int32.toInt64 (b 5))) S.1 S.2.1 dX5_passHeat_10 rfl ?_
  refine lv_lload_n S.1 S.2.1 dX5_passHeat_11 rfl (lv_at hl 0 rfl) ?_
  refine lv_lload_n S.1 S.2.1 dX5_passHeat_12 rfl (lv_at hl 0 rfl) ?_
  refine s_lmul (v := ((Int32.toInt64 y_1) * (Int32.toInt64 y_1))) S dX5_passHeat_13 rfl ?_
  refine lv_ldc2 (v := (1000 : Int64)) S.1 S.2.1 S.2.2.2.1 (S.2.2.2.2 _ (List.mem_of_getElem? (i := 2) rfl)) dX5_passHeat_14 ?_
  refine s_ldiv (v := (((Int32.toInt64 y_1) * (Int32.toInt64 y_1)) / (1000 : Int64))) S dX5_passHeat_17 (by decide) rfl ?_
  refine s_ladd (v := ((Int32.toInt64 (b 5)) + (((Int32.toInt64 y_1) * (Int32.toInt64 y_1)) / (1000 : Int64)))) S dX5_passHeat_18 rfl ?_
  refine lv_iload_n S.1 S.2.1 dX5_passHeat_19 rfl (lv_at hl 2 rfl) ?_
  refine lv_i2l (v := (Int32.toInt64 cool)) S.1 S.2.1 dX5_passHeat_20 rfl ?_
  refine s_lsub (v := (((Int32.toInt64 (b 5)) + (((Int32.toInt64 y_1) * (Int32.toInt64 y_1)) / (1000 : Int64))) - (Int32.toInt64 cool))) S dX5_passHeat_21 rfl ?_
  refine lv_lstore (lv' := [(4, .long (((Int32.toInt64 (b 5)) + (((Int32.toInt64 y_1) * (Int32.toInt64 y_1)) / (1000 : Int64))) - (Int32.toInt64 cool))), (2, .long (Int32.toInt64 y_1)), (0, .ref (E.2.2.2 B)), (1, .int cool)]) S.1 S.2.1 dX5_passHeat_22 hl (by decide) rfl (fun ls hl => ?_)
  refine lv_aload_n S.1 S.2.1 dX5_passHeat_24 rfl (lv_at hl 2 rfl) ?_
  refine lv_lconst (v := (0 : Int64)) S.1 S.2.1 dX5_passHeat_25 (by decide) ?_
  refine lv_ldc2 (v := (2000000000 : Int64)) S.1 S.2.1 S.2.2.2.1 (S.2.2.2.2 _ (List.mem_of_getElem? (i := 3) rfl)) dX5_passHeat_26 ?_
  refine lv_lload S.1 S.2.1 dX5_passHeat_29 (lv_at hl 0 rfl) ?_
  refine va_mmin_long (rest := [.long (0 : Int64), .ref (E.2.2.2 B)]) S.1 S.2.1 (S.2.2.1.trans hl.1.symm) S.2.2.2.1 (S.2.2.2.2 _ (List.mem_of_getElem? (i := 4) rfl)) (S.2.2.2.2 _ (List.mem_of_getElem? (i := 5) rfl)) (S.2.2.2.2 _ (List.mem_of_getElem? (i := 6) rfl)) (S.2.2.2.2 _ (List.mem_of_getElem? (i := 7) rfl)) (Nat.le_of_ble_eq_true rfl) (Nat.le_of_ble_eq_true rfl) (Nat.zero_le _) (Nat.zero_le _) dX5_passHeat_31 ?_
  refine W.eq (g2 := F0 mg 34 ls [.long (minL (2000000000 : Int64) (((Int32.toInt64 (b 5)) + (((Int32.toInt64 y_1) * (Int32.toInt64 y_1)) / (1000 : Int64))) - (Int32.toInt64 cool))), .long (0 : Int64), .ref (E.2.2.2 B)]) rfl ?_
  refine lv_topl (fun y_2 ey_2 => ?_)
  refine va_mmax_long (rest := [.ref (E.2.2.2 B)]) S.1 S.2.1 (S.2.2.1.trans hl.1.symm) S.2.2.2.1 (S.2.2.2.2 _ (List.mem_of_getElem? (i := 8) rfl)) (S.2.2.2.2 _ (List.mem_of_getElem? (i := 9) rfl)) (S.2.2.2.2 _ (List.mem_of_getElem? (i := 6) rfl)) (S.2.2.2.2 _ (List.mem_of_getElem? (i := 10) rfl)) (Nat.le_of_ble_eq_true rfl) (Nat.le_of_ble_eq_true rfl) (Nat.zero_le _) (Nat.zero_le _) dX5_passHeat_34 ?_
  refine W.eq (g2 := F0 mg 37 ls [.long (maxL (0 : Int64) y_2), .ref (E.2.2.2 B)]) rfl ?_
  refine lv_topl (fun y_3 ey_3 => ?_)
  refine lv_l2i (v := (Int64.toInt32 y_3)) S.1 S.2.1 dX5_passHeat_37 rfl ?_
  refine lv_topi (fun y_4 ey_4 => ?_)
  refine s_put S hX G (i := B) (kd := 5) (a := b) (a' := (upd b 5 y_4)) (I' := (up I B (upd b 5 y_4))) (v := .int y_4) (ty := .int) (ty0 := tyX5) (C := RX5) (T := TX5) (N := 13) 5 (hB 0 (by decide)) e_b rfl rfl rfl (by decide) rfl (fun _ h => (List.mem_cons_of_mem _ (List.mem_append_right _ h))) tyX5_ok nmX5 (by decide) (List.mem_of_getElem? (i := 1) rfl) (fun _ h => h) rfl (by decide +kernel) rfl rfl (Nat.le_of_ble_eq_true rfl) dX5_passHeat_38 (fun H locs G => ?_)
  refine s_vret S G hr hlk dX5_passHeat_41 ?_
  exact ⟨rfl, (st_eq1 (Eq.trans up_eq (show (upd b 5 y_4) = (upd b 5 (heatF b cool)) by subst ey_4 ey_3 ey_2 ey_1; simp [heatF, ])) (fun _ g0 => (up_ne g0))), rfl⟩
set_option maxHeartbeats 4000000 in
set_option maxRecDepth 100000 in
theorem k_X5_look (l : Launch) (E : Ev) {I : SI} {L : SL} (B : Nat) (b : Nat → Int32) (dv : Nat → Int32) (hB : IsLd B) (e_b : I (B) = b) (e_dv : I (B+4) = dv) : CS l yX5_look wsX5_look ({ frames := 2, cells := 0, slots := 0, locals := 42 }) E [.ref (E.2.2.2 B)] I L (fun vv I' L' => vv = none ∧ I' = (up I (B) (lookF b dv)) ∧ L' = L) := by
  refine CS.of (cc := cX5_look) (maxL := 2) (ret := none) (by decide) rfl (Nat.le_of_ble_eq_true rfl) ?_
  intro pg en sg mg below meth cg ls S hr hlk hX G hl
  have S : CallFix pg mg cg cX5_look 2 sg _ wsX5_look RX5 := S
  have hl : lv_has ls 2 [(0, .ref (E.2.2.2 B))] := hl
  refine lv_aload_n S.1 S.2.1 dX5_look_0 rfl (lv_at hl 0 rfl) ?_
  refine s_get S hX G (i := B) (kd := 5) (a := b) (v := .int (b 6)) (C := RX5) (T := TX5) (N := 13) 6 (hB 0 (by decide)) e_b rfl rfl (by decide) rfl (fun _ h => (List.mem_cons_of_mem _ (List.mem_append_left _ (List.mem_append_right _ h)))) (by decide) (List.mem_of_getElem? (i := 1) rfl) (fun _ h => h) dX5_look_1 ?_
  refine lv_if_eq (tgt := 14) S.1 S.2.1 dX5_look_4 (by decide) (fun c_1 => ?_) (fun c_1 => ?_)
  · refine s_vret S G hr hlk dX5_look_14 ?_
    exact ⟨rfl, (st_eq1 (Eq.trans e_b (show b = (lookF b dv) by first | (simp [lookF, c_1]; done) | (clear S hX G hl; grind [lookF]))) (fun _ g0 => rfl)), rfl⟩
  · refine lv_aload_n S.1 S.2.1 dX5_look_7 rfl (lv_at hl 0 rfl) ?_
    refine s_get S hX G (i := B) (kd := 5) (a := b) (v := .int (b 8)) (C := RX5) (T := TX5) (N := 13) 8 (hB 0 (by decide)) e_b rfl rfl (by decide) rfl (fun _ h => (List.mem_cons_of_mem _ (List.mem_append_left _ (List.mem_append_right _ h)))) (by decide) (List.mem_of_getElem? (i := 2) rfl) (fun _ h => h) dX5_look_8 ?_
    refine lv_if_le (tgt := 15) S.1 S.2.1 dX5_look_11 (by decide) (fun c_2 => ?_) (fun c_2 => ?_)
    · refine lv_aload_n S.1 S.2.1 dX5_look_15 rfl (lv_at hl 0 rfl) ?_
      refine s_get S hX G (i := B) (kd := 5) (a := b) (v := .ref (E.2.2.2 (B + 3))) (C := RX5) (T := TX5) (N := 13) 2 (hB 0 (by decide)) e_b rfl rfl (by decide) rfl (fun _ h => (List.mem_cons_of_mem _ (List.mem_append_left _ (List.mem_append_right _ h)))) (by decide) (List.mem_of_getElem? (i := 3) rfl) (fun _ h => h) dX5_look_16 ?_
      refine lv_iconst (v := (2 : Int32)) S.1 S.2.1 dX5_look_19 (by decide) ?_
      refine s_callV (C := RX1) (As := [.int (2 : Int32)]) (rest := []) (i := (B + 3)) (kd := 1) S hX G (k_X1_value4_2 l E (B + 3) dv (hB 3 (by decide)) (hB 4 (by decide)) e_dv) (cwV (bytes := cX1_value) (maxL := 2) (ret := (some .int)) 1 S.2.2.2.2 gX5_look_X1_value rfl rfl rfl (by decide +kernel) ⟨Nat.le_of_ble_eq_true rfl, Nat.le_of_ble_eq_true rfl⟩) (hB 3 (by decide)) rfl rfl rfl (by decide) rfl hl.1 rfl (Nat.le_of_ble_eq_true rfl) ⟨Nat.zero_le _, Nat.zero_le _⟩ dX5_look_20 (fun v I1 L1 H locs hR G => ?_)
      obtain ⟨hv, hI, hL⟩ := hR
      subst hv
      have G : GS E I L sg H locs := G.same hI hL
      refine W.eq (g2 := F0 mg 23 ls [.int (dv 2)]) rfl ?_
      refine lv_istore_n (lv' := [(1, .int (dv 2)), (0, .ref (E.2.2.2 B))]) S.1 S.2.1 dX5_look_23 rfl hl (by decide) rfl (fun ls hl => ?_)
      refine lv_aload_n S.1 S.2.1 dX5_look_24 rfl (lv_at hl 1 rfl) ?_
      refine s_callV (C := RX5) (As := []) (rest := []) (i := B) (kd := 5) S hX G (k_X5_size l E B b hB e_b) (cwV (bytes := cX5_size) (maxL := 1) (ret := (some .int)) 0 S.2.2.2.2 gX5_look_X5_size rfl rfl rfl (by decide +kernel) ⟨Nat.le_of_ble_eq_true rfl, Nat.le_of_ble_eq_true rfl⟩) (hB 0 (by decide)) rfl rfl rfl (by decide) rfl hl.1 rfl (Nat.le_of_ble_eq_true rfl) ⟨Nat.zero_le _, Nat.zero_le _⟩ dX5_look_25 (fun v I1 L1 H locs hR G => ?_)
      obtain ⟨hv, hI, hL⟩ := hR
      subst hv
      have G : GS E I L sg H locs := G.same hI hL
      refine W.eq (g2 := F0 mg 28 ls [.int (absI (b 4))]) rfl ?_
      refine lv_topi (fun y_3 ey_3 => ?_)
      refine lv_iload_n S.1 S.2.1 dX5_look_28 rfl (lv_at hl 0 rfl) ?_
      refine lv_icmp_lt (tgt := 40) S.1 S.2.1 dX5_look_29 (by decide) (fun c_4 => ?_) (fun c_4 => ?_)
      · refine lv_aload_n S.1 S.2.1 dX5_look_40 rfl (lv_at hl 1 rfl) ?_
        refine s_callV (C := RX5) (As := []) (rest := []) (i := B) (kd := 5) S hX G (k_X5_size l E B b hB e_b) (cwV (bytes := cX5_size) (maxL := 1) (ret := (some .int)) 0 S.2.2.2.2 gX5_look_X5_size rfl rfl rfl (by decide +kernel) ⟨Nat.le_of_ble_eq_true rfl, Nat.le_of_ble_eq_true rfl⟩) (hB 0 (by decide)) rfl rfl rfl (by decide) rfl hl.1 rfl (Nat.le_of_ble_eq_true rfl) ⟨Nat.zero_le _, Nat.zero_le _⟩ dX5_look_41 (fun v I1 L1 H locs hR G => ?_)
        obtain ⟨hv, hI, hL⟩ := hR
        subst hv
        have G : GS E I L sg H locs := G.same hI hL
        refine W.eq (g2 := F0 mg 44 ls [.int (absI (b 4))]) rfl ?_
        refine lv_topi (fun y_5 ey_5 => ?_)
        refine lv_iload_n S.1 S.2.1 dX5_look_44 rfl (lv_at hl 0 rfl) ?_
        refine lv_aload_n S.1 S.2.1 dX5_look_45 rfl (lv_at hl 1 rfl) ?_
        refine s_get S hX G (i := B) (kd := 5) (a := b) (v := .ref (E.2.2.2 (B + 3))) (C := RX5) (T := TX5) (N := 13) 2 (hB 0 (by decide)) e_b rfl rfl (by decide) rfl (fun _ h => (List.mem_cons_of_mem _ (List.mem_append_left _ (List.mem_append_right _ h)))) (by decide) (List.mem_of_getElem? (i := 3) rfl) (fun _ h => h) dX5_look_46 ?_
        refine lv_iconst (v := (3 : Int32)) S.1 S.2.1 dX5_look_49 (by decide) ?_
        refine s_callV (C := RX1) (As := [.int (3 : Int32)]) (rest := [.int (dv 2), .int y_5]) (i := (B + 3)) (kd := 1) S hX G (k_X1_value4_3 l E (B + 3) dv (hB 3 (by decide)) (hB 4 (by decide)) e_dv) (cwV (bytes := cX1_value) (maxL := 2) (ret := (some .int)) 1 S.2.2.2.2 gX5_look_X1_value rfl rfl rfl (by decide +kernel) ⟨Nat.le_of_ble_eq_true rfl, Nat.le_of_ble_eq_true rfl⟩) (hB 3 (by decide)) rfl rfl rfl (by decide) rfl hl.1 rfl (Nat.le_of_ble_eq_true rfl) ⟨Nat.zero_le _, Nat.zero_le _⟩ dX5_look_50 (fun v I1 L1 H locs hR G => ?_)
        obtain ⟨hv, hI, hL⟩ := hR
        subst hv
        have G : GS E I L sg H locs := G.same hI hL
        refine W.eq (g2 := F0 mg 53 ls [.int (dv 3), .int (dv 2), .int y_5]) rfl ?_
        refine s_isub (v := ((dv 2) - (dv 3))) S dX5_look_53 rfl ?_
        refine lv_icmp_gt (tgt := 62) S.1 S.2.1 dX5_look_54 (by decide) (fun c_6 => ?_) (fun c_6 => ?_)
        · refine s_vret S G hr hlk dX5_look_62 ?_
          exact ⟨rfl, (st_eq1 (Eq.trans e_b (show b = (lookF b dv) by subst ey_5 ey_3; (first | (simp [lookF, c_1, c_2, c_4, c_6]; done) | (clear S hX G hl; grind [lookF])))) (fun _ g0 => rfl)), rfl⟩
        · refine lv_aload_n S.1 S.2.1 dX5_look_57 rfl (lv_at hl 1 rfl) ?_
          refine lv_iconst (v := (0 : Int32)) S.1 S.2.1 dX5_look_58 (by decide) ?_
          refine s_put S hX G (i := B) (kd := 5) (a := b) (a' := (upd b 7 (0 : Int32))) (I' := (up I B (upd b 7 (0 : Int32)))) (v := .int (0 : Int32)) (ty := .boolean) (ty0 := tyX5) (C := RX5) (T := TX5) (N := 13) 7 (hB 0 (by decide)) e_b rfl rfl rfl (by decide) rfl (fun _ h => (List.mem_cons_of_mem _ (List.mem_append_left _ (List.mem_append_right _ h)))) tyX5_ok nmX5 (by decide) (List.mem_of_getElem? (i := 4) rfl) (fun _ h => h) rfl (by decide +kernel) (isb_nar (Or.inl rfl)) (isb_fit (Or.inl rfl)) (Nat.le_of_ble_eq_true rfl) dX5_look_59 (fun H locs G => ?_)
          refine s_vret S G hr hlk dX5_look_62 ?_
          exact ⟨rfl, (st_eq1 (Eq.trans up_eq (show (upd b 7 (0 : Int32)) = (lookF b dv) by subst ey_5 ey_3; (first | (simp [lookF, c_1, c_2, c_4, c_6]; done) | (clear S hX G hl; grind [lookF])))) (fun _ g0 => (up_ne g0))), rfl⟩
      · refine lv_aload_n S.1 S.2.1 dX5_look_32 rfl (lv_at hl 1 rfl) ?_
        refine lv_iconst (v := (1 : Int32)) S.1 S.2.1 dX5_look_33 (by decide) ?_
        refine s_put S hX G (i := B) (kd := 5) (a := b) (a' := (upd b 7 (1 : Int32))) (I' := (up I B (upd b 7 (1 : Int32)))) (v := .int (1 : Int32)) (ty := .boolean) (ty0 := tyX5) (C := RX5) (T := TX5) (N := 13) 7 (hB 0 (by decide)) e_b rfl rfl rfl (by decide) rfl (fun _ h => (List.mem_cons_of_mem _ (List.mem_append_left _ (List.mem_append_right _ h)))) tyX5_ok nmX5 (by decide) (List.mem_of_getElem? (i := 4) rfl) (fun _ h => h) rfl (by decide +kernel) (isb_nar (Or.inr rfl)) (isb_fit (Or.inr rfl)) (Nat.le_of_ble_eq_true rfl) dX5_look_34 (fun H locs G => ?_)
        refine lv_goto (tgt := 62) S.1 S.2.1 dX5_look_37 (by decide) ?_
        refine s_vret S G hr hlk dX5_look_62 ?_
        exact ⟨rfl, (st_eq1 (Eq.trans up_eq (show (upd b 7 (1 : Int32)) = (lookF b dv) by subst ey_3; (first | (simp [lookF, c_1, c_2, c_4]; done) | (clear S hX G hl; grind [lookF])))) (fun _ g0 => (up_ne g0))), rfl⟩
    · refine s_vret S G hr hlk dX5_look_14 ?_
      exact ⟨rfl, (st_eq1 (Eq.trans e_b (show b = (lookF b dv) by first | (simp [lookF, c_1, c_2]; done) | (clear S hX G hl; grind [lookF]))) (fun _ g0 => rfl)), rfl⟩
