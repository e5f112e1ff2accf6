theorem CS.mono {l : Launch} {y : MethodName} {ws : List Cond} {rm : Room} {E : Ev} {As : List Value} {I : SI} {L : SL} {Rs Rs' : Option Value → SI → SL → Prop} (h : CS l y ws rm E As I L Rs) (k : ∀ v I' L', Rs v I' L' → Rs' v I' L') : CS l y ws rm E As I L Rs' := by
  intro p e a1 a2 a3 s m args below hf h1 h2 h3
  obtain ⟨t, o, r1, r2, r3, ⟨⟨v, I', L', q1, q2, q3⟩, q4⟩, r5⟩ := h p e a1 a2 a3 s m args below hf h1 h2 h3
  exact ⟨t, o, r1, r2, r3, ⟨⟨v, I', L', q1, k v I' L' q2, q3⟩, q4⟩, r5⟩
def recK (kp : Nat) : Nat := if kp = 4 then 4 else kp + 1
def recW (d wa : Nat → Int32) (kp : Nat) : Nat → Int32 := if kp = 4 then recA d wa else va_cpy d wa 0 (270 * kp) 270
def recS (lz : Nat → Int64) (v : Int64) (kp : Nat) : Nat → Int64 := if kp = 4 then recSA lz v else vp_updL lz kp v
theorem recW_4 {d wa : Nat → Int32} : recW d wa 4 = recA d wa := if_pos rfl
theorem recW_lt {d wa : Nat → Int32} {kp : Nat} (h : kp < 4) : recW d wa kp = va_cpy d wa 0 (270 * kp) 270 := if_neg (by omega)
theorem recS_4 {lz : Nat → Int64} {v : Int64} : recS lz v 4 = recSA lz v := if_pos rfl
theorem recS_lt {lz : Nat → Int64} {v : Int64} {kp : Nat} (h : kp < 4) : recS lz v kp = vp_updL lz kp v := if_neg (by omega)
theorem recK_4 : recK 4 = 4 := if_pos rfl
theorem recK_lt {kp : Nat} (h : kp < 4) : recK kp = kp + 1 := if_neg (by omega)
theorem recK_le {kp : Nat} (h : kp ≤ 4) : recK kp ≤ 4 := by unfold recK; split <;> omega
theorem k_X9_records (l : Launch) (E : Ev) {I : SI} {L : SL} (mx : Nat → Int32) (d : Nat → Int32) (wa : Nat → Int32) (lx : Nat → Int64) (lz : Nat → Int64) (kp : Nat) (e_mx : I (161) = mx) (e_d : I (162) = d) (e_wa : I (163) = wa) (e_lx : L (161) = lx) (e_lz : L (164) = lz) (hx : mx 2 = nI kp) (hkp : kp ≤ 4) : CS l yX9_records wsX9_records ({ frames := 0, cells := 0, slots := 0, locals := 0 }) E [.ref (E.2.2.2 161)] I L (fun vv I' L' => vv = none ∧ I' = (up (up I (161) (upd mx 2 (nI (recK kp)))) (163) (recW d wa kp)) ∧ L' = (upL L (164) (recS lz (lx 3) kp))) := by
  rcases (show kp = 4 ∨ kp < 4 by omega) with rfl | h4
  · rw [recK_4, recW_4, recS_4]
    exact k_X9_records_4 l E mx d wa lx lz e_mx e_d e_wa e_lx e_lz hx
  · rw [recK_lt h4, recW_lt h4, recS_lt h4]
    exact k_X9_records_lt l E mx d wa lx lz kp e_mx e_d e_wa e_lx e_lz hx h4
set_option maxHeartbeats 4000000 in
set_option maxRecDepth 100000 in
theorem k_X9_set_ok (l : Launch) (E : Ev) {I : SI} {L : SL} (q : Nat) (value : Int32) (mx : Nat → Int32) (d : Nat → Int32) (wa : Nat → Int32) (lx : Nat → Int64) (lz : Nat → Int64) (kp : Nat) (e_mx : I (161) = mx) (e_d : I (162) = d) (e_wa : I (163) = wa) (e_lx : L (161) = lx) (e_lz : L (164) = lz) (hx : mx 2 = nI kp) (hkp : kp ≤ 4) (hq : q < 6) (ht : TK6 (nI q) value) : CS l yX9_set wsX9_set ({ frames := 2, cells := 0, slots := 0, locals := 46 }) E [.ref (E.2.2.2 161), .int (nI q), .int value] I L (fun vv I' L' => vv = some (.int (d (1 + q))) ∧ I' = (up (up (up I (161) (upd mx 2 (nI (recK kp)))) (162) (upd d (1 + q) value)) (163) (recW d wa kp)) ∧ L' = (upL L (164) (recS lz (lx 3) kp))) := by
  refine CS.of (cc := cX9_set) (maxL := 4) (ret := (some .int)) (by decide) rfl (Nat.le_of_ble_eq_true rfl) ?_
  intro pg en sg mg below meth cg ls S hr hlk hX G hl
  have S : CallFix pg mg cg cX9_set 4 sg _ wsX9_set RX9 := S
  have hl : lv_has ls 4 [(0, .ref (E.2.2.2 161)), (1, .int (nI q)), (2, .int value)] := hl
  refine lv_iload_n S.1 S.2.1 dX9_set_0 rfl (lv_at hl 1 rfl) ?_
  refine lv_iload_n S.1 S.2.1 dX9_set_1 rfl (lv_at hl 2 rfl) ?_
  refine s_callS (As := [.int (nI q), .int value]) (rest := []) S hX G (k_X9_isSetting l E (nI q) value) (va_cwS (bytes := cX9_isSetting) (maxL := 2) (ret := (some .boolean)) 2 S.2.2.2.2 gX9_set_X9_isSetting rfl rfl rfl (by decide +kernel) ⟨Nat.le_of_ble_eq_true rfl, Nat.le_of_ble_eq_true rfl⟩) rfl hl.1 rfl (Nat.le_of_ble_eq_true rfl) ⟨Nat.zero_le _, Nat.zero_le _⟩ dX9_set_2 (fun v I1 L1 H locs hR G => ?_)
  obtain ⟨hv, hI, hL⟩ := hR
  subst hv
  have G : GS E I L sg H locs := G.same hI hL
  refine W.eq (g2 := F0 mg 5 ls [.int (if TK6 (nI q) value then 1 else 0)]) rfl ?_
  refine s_if_ne_b (P := TK6 (nI q) value) (tgt := 11) S dX9_set_5 (by decide) (fun _ => ?_) (fun h => absurd ht h)
  refine lv_aload_n S.1 S.2.1 dX9_set_11 rfl (lv_at hl 0 rfl) ?_
  refine s_callV (C := RX9) (As := []) (rest := []) (i := 161) (kd := 9) S hX G (k_X9_records l E mx d wa lx lz kp e_mx e_d e_wa e_lx e_lz hx hkp) (cwV (bytes := cX9_records) (maxL := 2) (ret := none) 0 S.2.2.2.2 gX9_set_X9_records rfl rfl rfl (by decide +kernel) ⟨Nat.le_of_ble_eq_true rfl, Nat.le_of_ble_eq_true rfl⟩) (rfl : sh 161 = 9) rfl rfl rfl (by decide) rfl hl.1 rfl (Nat.le_of_ble_eq_true rfl) ⟨Nat.zero_le _, Nat.zero_le _⟩ dX9_set_12 (fun v I1 L1 H locs hR G => ?_)
  obtain ⟨hv, hI, hL⟩ := hR
  subst hv
  obtain ⟨r_1, er_1⟩ : ∃ r : Nat → Int32, r = (upd mx 2 (nI (recK kp))) := ⟨_, rfl⟩
  rw [← er_1] at hI
  obtain ⟨r_2, er_2⟩ : ∃ r : Nat → Int32, r = (recW d wa kp) := ⟨_, rfl⟩
  rw [← er_2] at hI
  obtain ⟨r_3, er_3⟩ : ∃ r : Nat → Int64, r = (recS lz (lx 3) kp) := ⟨_, rfl⟩
  rw [← er_3] at hL
  have G : GS E (up (up I 161 r_1) 163 r_2) (upL L 164 r_3) sg H locs := G.same hI hL
  refine W.eq (g2 := F0 mg 15 ls []) rfl ?_
  refine lv_aload_n S.1 S.2.1 dX9_set_15 rfl (lv_at hl 0 rfl) ?_
  refine s_get S hX G (i := 161) (kd := 9) (a := r_1) (v := .ref (E.2.2.2 162)) (C := RX9) (T := TX9) (N := 13) 0 (rfl : sh 161 = 9) ((up_ne (by decide)).trans up_eq) rfl rfl (by decide) rfl (fun _ h => (List.mem_cons_of_mem _ (List.mem_append_right _ h))) (by decide) (List.mem_of_getElem? (i := 2) rfl) (fun _ h => h) dX9_set_16 ?_
  refine lv_iconst (v := (1 : Int32)) S.1 S.2.1 dX9_set_19 (by decide) ?_
  refine lv_iload_n S.1 S.2.1 dX9_set_20 rfl (lv_at hl 1 rfl) ?_
  refine s_iadd (v := (nI (1 + q))) S dX9_set_21 (nI_add 1 q) ?_
  refine s_iald S hX G (i := 162) (kd := 284) (n := 270) (a := d) (x := (d (1 + q))) (rfl : sh 162 = 284) ((up_ne (by decide)).trans ((up_ne (by decide)).trans e_d)) rfl (by decide) (vp_in_nI (by omega) (by decide)) (congrArg d (nI_clamp (by omega))) dX9_set_22 ?_
  refine lv_istore_n (lv' := [(3, .int (d (1 + q))), (0, .ref (E.2.2.2 161)), (1, .int (nI q)), (2, .int value)]) S.1 S.2.1 dX9_set_23 rfl hl (by decide) rfl (fun ls hl => ?_)
  refine lv_aload_n S.1 S.2.1 dX9_set_24 rfl (lv_at hl 1 rfl) ?_
  refine s_get S hX G (i := 161) (kd := 9) (a := r_1) (v := .ref (E.2.2.2 162)) (C := RX9) (T := TX9) (N := 13) 0 (rfl : sh 161 = 9) ((up_ne (by decide)).trans up_eq) rfl rfl (by decide) rfl (fun _ h => (List.mem_cons_of_mem _ (List.mem_append_right _ h))) (by decide) (List.mem_of_getElem? (i := 2) rfl) (fun _ h => h) dX9_set_25 ?_
  refine lv_iconst (v := (1 : Int32)) S.1 S.2.1 dX9_set_28 (by decide) ?_
  refine lv_iload_n S.1 S.2.1 dX9_set_29 rfl (lv_at hl 2 rfl) ?_
  refine s_iadd (v := (nI (1 + q))) S dX9_set_30 (nI_add 1 q) ?_
  refine lv_iload_n S.1 S.2.1 dX9_set_31 rfl (lv_at hl 3 rfl) ?_
  refine s_iast S hX G (i := 162) (kd := 284) (n := 270) (jn := (1 + q)) (a := d) (I' := (up (up (up I 161 r_1) 163 r_2) 162 (upd d (1 + q) value))) (rfl : sh 162 = 284) ((up_ne (by decide)).trans ((up_ne (by decide)).trans e_d)) (fun _ => rfl) (by decide) (vp_in_nI (by omega) (by decide)) (nI_clamp (by omega)) rfl dX9_set_32 (fun H locs G => ?_)
  refine lv_iload_n S.1 S.2.1 dX9_set_33 rfl (lv_at hl 0 rfl) ?_
  refine s_iret (x := (d (1 + q))) S G hr hlk dX9_set_34 ?_
  exact ⟨rfl, (st_eq3 (Eq.trans ((up_ne (by decide)).trans ((up_ne (by decide)).trans up_eq)) (show r_1 = (upd mx 2 (nI (recK kp))) by subst er_3 er_2 er_1; rfl)) up_eq (Eq.trans ((up_ne (by decide)).trans up_eq) (show r_2 = (recW d wa kp) by subst er_3 er_2 er_1; rfl)) (fun _ g0 g1 g2 => ((up_ne g1).trans ((up_ne g2).trans (up_ne g0))))), (lt_eq1 (Eq.trans upL_eq (show r_3 = (recS lz (lx 3) kp) by subst er_3 er_2 er_1; rfl)) (fun _ g0 => (upL_ne g0)))⟩
set_option maxHeartbeats 4000000 in
set_option maxRecDepth 100000 in
theorem k_X9_set_no (l : Launch) (E : Ev) {I : SI} {L : SL} (what : Int32) (value : Int32) (ht : ¬ TK6 what value) : CS l yX9_set wsX9_set ({ frames := 2, cells := 0, slots := 0, locals := 46 }) E [.ref (E.2.2.2 161), .int what, .int value] I L (fun vv I' L' => vv = some (.int (-2000000001 : Int32)) ∧ I' = I ∧ L' = L) := by
  refine CS.of (cc := cX9_set) (maxL := 4) (ret := (some .int)) (by decide) rfl (Nat.le_of_ble_eq_true rfl) ?_
  intro pg en sg mg below meth cg ls S hr hlk hX G hl
  have S : CallFix pg mg cg cX9_set 4 sg _ wsX9_set RX9 := S
  have hl : lv_has ls 4 [(0, .ref (E.2.2.2 161)), (1, .int what), (2, .int value)] := hl
  refine lv_iload_n S.1 S.2.1 dX9_set_0 rfl (lv_at hl 1 rfl) ?_
  refine lv_iload_n S.1 S.2.1 dX9_set_1 rfl (lv_at hl 2 rfl) ?_
  refine s_callS (As := [.int what, .int value]) (rest := []) S hX G (k_X9_isSetting l E what value) (va_cwS (bytes := cX9_isSetting) (maxL := 2) (ret := (some .boolean)) 2 S.2.2.2.2 gX9_set_X9_isSetting rfl rfl rfl (by decide +kernel) ⟨Nat.le_of_ble_eq_true rfl, Nat.le_of_ble_eq_true rfl⟩) rfl hl.1 rfl (Nat.le_of_ble_eq_true rfl) ⟨Nat.zero_le _, Nat.zero_le _⟩ dX9_set_2 (fun v I1 L1 H locs hR G => ?_)
  obtain ⟨hv, hI, hL⟩ := hR
  subst hv
  have G : GS E I L sg H locs := G.same hI hL
  refine W.eq (g2 := F0 mg 5 ls [.int (if TK6 what value then 1 else 0)]) rfl ?_
  refine s_if_ne_b (P := TK6 what value) (tgt := 11) S dX9_set_5 (by decide) (fun h => absurd h ht) (fun _ => ?_)
  refine lv_ldc (v := (-2000000001 : Int32)) S.1 S.2.1 S.2.2.2.1 (S.2.2.2.2 _ (List.mem_of_getElem? (i := 1) rfl)) dX9_set_8 ?_
  refine s_iret (x := (-2000000001 : Int32)) S G hr hlk dX9_set_10 ?_
  exact ⟨rfl, rfl, rfl⟩
theorem in64 {x a b : Int32} (h : ¬ x < a ∧ ¬ b < x) {A B : Int64} (ha : A = Int32.toInt64 a) (hb : B = Int32.toInt64 b) : ¬ Int32.toInt64 x < A ∧ ¬ B < Int32.toInt64 x := by
  rw [ha, hb]
  exact (i64_in x a b).mpr h
theorem nin64 {x a b : Int32} (h : ¬ (¬ x < a ∧ ¬ b < x)) {A B : Int64} (ha : A = Int32.toInt64 a) (hb : B = Int32.toInt64 b) : ¬ (¬ Int32.toInt64 x < A ∧ ¬ B < Int32.toInt64 x) := by
  rw [ha, hb]
  exact fun q => h ((i64_in x a b).mp q)
set_option maxHeartbeats 4000000 in
set_option maxRecDepth 100000 in
theorem k_X9_setLoad_ok_0 (l : Launch) (E : Ev) {I : SI} {L : SL} (q : Nat) (value : Int32) (mx : Nat → Int32) (d : Nat → Int32) (wa : Nat → Int32) (lx : Nat → Int64) (lz : Nat → Int64) (kp : Nat) (e_mx : I (161) = mx) (e_d : I (162) = d) (e_wa : I (163) = wa) (e_lx : L (161) = lx) (e_lz : L (164) = lz) (hx : mx 2 = nI kp) (hkp : kp ≤ 4) (hq : q < 4) (ht : TK4 (nI q) value) : CS l yX9_setLoad wsX9_setLoad ({ frames := 2, cells := 0, slots := 0, locals := 46 }) E [.ref (E.2.2.2 161), .int (0 : Int32), .int (nI q), .int value] I L (fun vv I' L' => vv = some (.int (d (40 + q))) ∧ I' = (up (up (up I (161) (upd mx 2 (nI (recK kp)))) (162) (upd d (40 + q) value)) (163) (recW d wa kp)) ∧ L' = (upL L (164) (recS lz (lx 3) kp))) := by
  refine CS.of (cc := cX9_setLoad) (maxL := 5) (ret := (some .int)) (by decide) rfl (Nat.le_of_ble_eq_true rfl) ?_
  intro pg en sg mg below meth cg ls S hr hlk hX G hl
  have S : CallFix pg mg cg cX9_setLoad 5 sg _ wsX9_setLoad RX9 := S
  have hl : lv_has ls 5 [(0, .ref (E.2.2.2 161)), (1, .int (0 : Int32)), (2, .int (nI q)), (3, .int value)] := hl
  refine lv_iload_n S.1 S.2.1 dX9_setLoad_0 rfl (lv_at hl 1 rfl) ?_
  refine s_callS (As := [.int (0 : Int32)]) (rest := []) S hX G (k_X9_isLoad l E (0 : Int32)) (va_cwS (bytes := cX9_isLoad) (maxL := 1) (ret := (some .boolean)) 1 S.2.2.2.2 gX9_setLoad_X9_isLoad rfl rfl rfl (by decide +kernel) ⟨Nat.le_of_ble_eq_true rfl, Nat.le_of_ble_eq_true rfl⟩) rfl hl.1 rfl (Nat.le_of_ble_eq_true rfl) ⟨Nat.zero_le _, Nat.zero_le _⟩ dX9_setLoad_1 (fun v I1 L1 H locs hR G => ?_)
  obtain ⟨hv, hI, hL⟩ := hR
  subst hv
  have G : GS E I L sg H locs := G.same hI hL
  refine W.eq (g2 := F0 mg 4 ls [.int (if ¬ (0 : Int32) < (0 : Int32) ∧ ¬ (1 : Int32) < (0 : Int32) then 1 else 0)]) rfl ?_
  refine s_if_eq_b (P := ¬ (0 : Int32) < (0 : Int32) ∧ ¬ (1 : Int32) < (0 : Int32)) (tgt := 15) S dX9_setLoad_4 (by decide) (fun h => absurd (by decide) h) (fun _ => ?_)
  refine lv_iload_n S.1 S.2.1 dX9_setLoad_7 rfl (lv_at hl 2 rfl) ?_
  refine lv_iload_n S.1 S.2.1 dX9_setLoad_8 rfl (lv_at hl 3 rfl) ?_
  refine s_callS (As := [.int (nI q), .int value]) (rest := []) S hX G (k_X9_isOfLoad l E (nI q) value) (va_cwS (bytes := cX9_isOfLoad) (maxL := 2) (ret := (some .boolean)) 2 S.2.2.2.2 gX9_setLoad_X9_isOfLoad rfl rfl rfl (by decide +kernel) ⟨Nat.le_of_ble_eq_true rfl, Nat.le_of_ble_eq_true rfl⟩) rfl hl.1 rfl (Nat.le_of_ble_eq_true rfl) ⟨Nat.zero_le _, Nat.zero_le _⟩ dX9_setLoad_9 (fun v I1 L1 H locs hR G => ?_)
  obtain ⟨hv, hI, hL⟩ := hR
  subst hv
  have G : GS E I L sg H locs := G.same hI hL
  refine W.eq (g2 := F0 mg 12 ls [.int (if TK4 (nI q) value then 1 else 0)]) rfl ?_
  refine s_if_ne_b (P := TK4 (nI q) value) (tgt := 18) S dX9_setLoad_12 (by decide) (fun _ => ?_) (fun h => absurd ht h)
  refine lv_aload_n S.1 S.2.1 dX9_setLoad_18 rfl (lv_at hl 0 rfl) ?_
  refine s_callV (C := RX9) (As := []) (rest := []) (i := 161) (kd := 9) S hX G (k_X9_records l E mx d wa lx lz kp e_mx e_d e_wa e_lx e_lz hx hkp) (cwV (bytes := cX9_records) (maxL := 2) (ret := none) 0 S.2.2.2.2 gX9_setLoad_X9_records rfl rfl rfl (by decide +kernel) ⟨Nat.le_of_ble_eq_true rfl, Nat.le_of_ble_eq_true rfl⟩) (rfl : sh 161 = 9) rfl rfl rfl (by decide) rfl hl.1 rfl (Nat.le_of_ble_eq_true rfl) ⟨Nat.zero_le _, Nat.zero_le _⟩ dX9_setLoad_19 (fun v I1 L1 H locs hR G => ?_)
  obtain ⟨hv, hI, hL⟩ := hR
  subst hv
  obtain ⟨r_1, er_1⟩ : ∃ r : Nat → Int32, r = (upd mx 2 (nI (recK kp))) := ⟨_, rfl⟩
  rw [← er_1] at hI
  obtain ⟨r_2, er_2⟩ : ∃ r : Nat → Int32, r = (recW d wa kp) := ⟨_, rfl⟩
  rw [← er_2] at hI
  obtain ⟨r_3, er_3⟩ : ∃ r : Nat → Int64, r = (recS lz (lx 3) kp) := ⟨_, rfl⟩
  rw [← er_3] at hL
  have G : GS E (up (up I 161 r_1) 163 r_2) (upL L 164 r_3) sg H locs := G.same hI hL
  refine W.eq (g2 := F0 mg 22 ls []) rfl ?_
  refine lv_aload_n S.1 S.2.1 dX9_setLoad_22 rfl (lv_at hl 0 rfl) ?_
  refine s_get S hX G (i := 161) (kd := 9) (a := r_1) (v := .ref (E.2.2.2 162)) (C := RX9) (T := TX9) (N := 13) 0 (rfl : sh 161 = 9) ((up_ne (by decide)).trans up_eq) rfl rfl (by decide) rfl (fun _ h => (List.mem_cons_of_mem _ (List.mem_append_right _ h))) (by decide) (List.mem_of_getElem? (i := 2) rfl) (fun _ h => h) dX9_setLoad_23 ?_
  refine lv_iload_n S.1 S.2.1 dX9_setLoad_26 rfl (lv_at hl 1 rfl) ?_
  refine s_callS (As := [.int (0 : Int32)]) (rest := [.ref (E.2.2.2 162)]) S hX G (k_X9_loadAt_0 l E) (va_cwS (bytes := cX9_loadAt) (maxL := 1) (ret := (some .int)) 1 S.2.2.2.2 gX9_setLoad_X9_loadAt rfl rfl rfl (by decide +kernel) ⟨Nat.le_of_ble_eq_true rfl, Nat.le_of_ble_eq_true rfl⟩) rfl hl.1 rfl (Nat.le_of_ble_eq_true rfl) ⟨Nat.zero_le _, Nat.zero_le _⟩ dX9_setLoad_27 (fun v I1 L1 H locs hR G => ?_)
  obtain ⟨hv, hI, hL⟩ := hR
  subst hv
  have G : GS E (up (up I 161 r_1) 163 r_2) (upL L 164 r_3) sg H locs := G.same hI hL
  refine W.eq (g2 := F0 mg 30 ls [.int (40 : Int32), .ref (E.2.2.2 162)]) rfl ?_
  refine lv_iload_n S.1 S.2.1 dX9_setLoad_30 rfl (lv_at hl 2 rfl) ?_
  refine s_iadd (v := (nI (40 + q))) S dX9_setLoad_31 (nI_add 40 q) ?_
  refine s_iald S hX G (i := 162) (kd := 284) (n := 270) (a := d) (x := (d (40 + q))) (rfl : sh 162 = 284) ((up_ne (by decide)).trans ((up_ne (by decide)).trans e_d)) rfl (by decide) (vp_in_nI (by omega) (by decide)) (congrArg d (nI_clamp (by omega))) dX9_setLoad_32 ?_
  refine lv_istore (lv' := [(4, .int (d (40 + q))), (0, .ref (E.2.2.2 161)), (1, .int (0 : Int32)), (2, .int (nI q)), (3, .int value)]) S.1 S.2.1 dX9_setLoad_33 hl (by decide) rfl (fun ls hl => ?_)
  refine lv_aload_n S.1 S.2.1 dX9_setLoad_35 rfl (lv_at hl 1 rfl) ?_
  refine s_get S hX G (i := 161) (kd := 9) (a := r_1) (v := .ref (E.2.2.2 162)) (C := RX9) (T := TX9) (N := 13) 0 (rfl : sh 161 = 9) ((up_ne (by decide)).trans up_eq) rfl rfl (by decide) rfl (fun _ h => (List.mem_cons_of_mem _ (List.mem_append_right _ h))) (by decide) (List.mem_of_getElem? (i := 2) rfl) (fun _ h => h) dX9_setLoad_36 ?_
  refine lv_iload_n S.1 S.2.1 dX9_setLoad_39 rfl (lv_at hl 2 rfl) ?_
  refine s_callS (As := [.int (0 : Int32)]) (rest := [.ref (E.2.2.2 162)]) S hX G (k_X9_loadAt_0 l E) (va_cwS (bytes := cX9_loadAt) (maxL := 1) (ret := (some .int)) 1 S.2.2.2.2 gX9_setLoad_X9_loadAt rfl rfl rfl (by decide +kernel) ⟨Nat.le_of_ble_eq_true rfl, Nat.le_of_ble_eq_true rfl⟩) rfl hl.1 rfl (Nat.le_of_ble_eq_true rfl) ⟨Nat.zero_le _, Nat.zero_le _⟩ dX9_setLoad_40 (fun v I1 L1 H locs hR G => ?_)
  obtain ⟨hv, hI, hL⟩ := hR
  subst hv
  have G : GS E (up (up I 161 r_1) 163 r_2) (upL L 164 r_3) sg H locs := G.same hI hL
  refine W.eq (g2 := F0 mg 43 ls [.int (40 : Int32), .ref (E.2.2.2 162)]) rfl ?_
  refine lv_iload_n S.1 S.2.1 dX9_setLoad_43 rfl (lv_at hl 3 rfl) ?_
  refine s_iadd (v := (nI (40 + q))) S dX9_setLoad_44 (nI_add 40 q) ?_
  refine lv_iload_n S.1 S.2.1 dX9_setLoad_45 rfl (lv_at hl 4 rfl) ?_
  refine s_iast S hX G (i := 162) (kd := 284) (n := 270) (jn := (40 + q)) (a := d) (I' := (up (up (up I 161 r_1) 163 r_2) 162 (upd d (40 + q) value))) (rfl : sh 162 = 284) ((up_ne (by decide)).trans ((up_ne (by decide)).trans e_d)) (fun _ => rfl) (by decide) (vp_in_nI (by omega) (by decide)) (nI_clamp (by omega)) rfl dX9_setLoad_46 (fun H locs G => ?_)
  refine lv_iload S.1 S.2.1 dX9_setLoad_47 (lv_at hl 0 rfl) ?_
  refine s_iret (x := (d (40 + q))) S G hr hlk dX9_setLoad_49 ?_
  exact ⟨rfl, (st_eq3 (Eq.trans ((up_ne (by decide)).trans ((up_ne (by decide)).trans up_eq)) (show r_1 = (upd mx 2 (nI (recK kp))) by subst er_3 er_2 er_1; rfl)) up_eq (Eq.trans ((up_ne (by decide)).trans up_eq) (show r_2 = (recW d wa kp) by subst er_3 er_2 er_1; rfl)) (fun _ g0 g1 g2 => ((up_ne g1).trans ((up_ne g2).trans (up_ne g0))))), (lt_eq1 (Eq.trans upL_eq (show r_3 = (recS lz (lx 3) kp) by subst er_3 er_2 er_1; rfl)) (fun _ g0 => (upL_ne g0)))⟩
set_option maxHeartbeats 4000000 in
set_option maxRecDepth 100000 in
theorem k_X9_chop_ok_0 (l : Launch) (E : Ev) {I : SI} {L : SL} (on : Int32) (mx : Nat → Int32) (d : Nat → Int32) (wa : Nat → Int32) (lx : Nat → Int64) (lz : Nat → Int64) (kp : Nat) (e_mx : I (161) = mx) (e_d : I (162) = d) (e_wa : I (163) = wa) (e_lx : L (161) = lx) (e_lz : L (164) = lz) (hx : mx 2 = nI kp) (hkp : kp ≤ 4) (ht : IN1 on) : CS l yX9_chop wsX9_chop ({ frames := 2, cells := 0, slots := 0, locals := 45 }) E [.ref (E.2.2.2 161), .int (0 : Int32), .int on] I L (fun vv I' L' => vv = some (.int (d 46)) ∧ I' = (up (up (up I (161) (upd mx 2 (nI (recK kp)))) (162) (upd (upd d 46 on) 47 (if on = 0 then 0 else d 47))) (163) (recW d wa kp)) ∧ L' = (upL L (164) (recS lz (lx 3) kp))) := by
  refine CS.of (cc := cX9_chop) (maxL := 4) (ret := (some .int)) (by decide) rfl (Nat.le_of_ble_eq_true rfl) ?_
  intro pg en sg mg below meth cg ls S hr hlk hX G hl
  have S : CallFix pg mg cg cX9_chop 4 sg _ wsX9_chop RX9 := S
  have hl : lv_has ls 4 [(0, .ref (E.2.2.2 161)), (1, .int (0 : Int32)), (2, .int on)] := hl
  refine lv_iload_n S.1 S.2.1 dX9_chop_0 rfl (lv_at hl 1 rfl) ?_
  refine s_callS (As := [.int (0 : Int32)]) (rest := []) S hX G (k_X9_isLoad l E (0 : Int32)) (va_cwS (bytes := cX9_isLoad) (maxL := 1) (ret := (some .boolean)) 1 S.2.2.2.2 gX9_chop_X9_isLoad rfl rfl rfl (by decide +kernel) ⟨Nat.le_of_ble_eq_true rfl, Nat.le_of_ble_eq_true rfl⟩) rfl hl.1 rfl (Nat.le_of_ble_eq_true rfl) ⟨Nat.zero_le _, Nat.zero_le _⟩ dX9_chop_1 (fun v I1 L1 H locs hR G => ?_)
  obtain ⟨hv, hI, hL⟩ := hR
  subst hv
  have G : GS E I L sg H locs := G.same hI hL
  refine W.eq (g2 := F0 mg 4 ls [.int (if ¬ (0 : Int32) < (0 : Int32) ∧ ¬ (1 : Int32) < (0 : Int32) then 1 else 0)]) rfl ?_
  refine s_if_eq_b (P := ¬ (0 : Int32) < (0 : Int32) ∧ ¬ (1 : Int32) < (0 : Int32)) (tgt := 17) S dX9_chop_4 (by decide) (fun h => absurd (by decide) h) (fun _ => ?_)
  refine lv_iload_n S.1 S.2.1 dX9_chop_7 rfl (lv_at hl 2 rfl) ?_
  refine lv_i2l (v := (Int32.toInt64 on)) S.1 S.2.1 dX9_chop_8 rfl ?_
  refine lv_lconst (v := (0 : Int64)) S.1 S.2.1 dX9_chop_9 (by decide) ?_
  refine lv_lconst (v := (1 : Int64)) S.1 S.2.1 dX9_chop_10 (by decide) ?_
  refine s_callS (As := [.long (Int32.toInt64 on), .long (0 : Int64), .long (1 : Int64)]) (rest := []) S hX G (k_X9_in l E (Int32.toInt64 on) (0 : Int64) (1 : Int64)) (va_cwS (bytes := cX9_in) (maxL := 6) (ret := (some .boolean)) 3 S.2.2.2.2 gX9_chop_X9_in rfl rfl rfl (by decide +kernel) ⟨Nat.le_of_ble_eq_true rfl, Nat.le_of_ble_eq_true rfl⟩) rfl hl.1 rfl (Nat.le_of_ble_eq_true rfl) ⟨Nat.zero_le _, Nat.zero_le _⟩ dX9_chop_11 (fun v I1 L1 H locs hR G => ?_)
  obtain ⟨hv, hI, hL⟩ := hR
  subst hv
  have G : GS E I L sg H locs := G.same hI hL
  refine W.eq (g2 := F0 mg 14 ls [.int (if ¬ (Int32.toInt64 on) < (0 : Int64) ∧ ¬ (1 : Int64) < (Int32.toInt64 on) then 1 else 0)]) rfl ?_
  refine s_if_ne_b (P := ¬ (Int32.toInt64 on) < (0 : Int64) ∧ ¬ (1 : Int64) < (Int32.toInt64 on)) (tgt := 20) S dX9_chop_14 (by decide) (fun _ => ?_) (fun h => absurd (in64 (a := 0) (b := 1) ht (by decide) (by decide)) h)
  refine lv_aload_n S.1 S.2.1 dX9_chop_20 rfl (lv_at hl 0 rfl) ?_
  refine s_callV (C := RX9) (As := []) (rest := []) (i := 161) (kd := 9) S hX G (k_X9_records l E mx d wa lx lz kp e_mx e_d e_wa e_lx e_lz hx hkp) (cwV (bytes := cX9_records) (maxL := 2) (ret := none) 0 S.2.2.2.2 gX9_chop_X9_records rfl rfl rfl (by decide +kernel) ⟨Nat.le_of_ble_eq_true rfl, Nat.le_of_ble_eq_true rfl⟩) (rfl : sh 161 = 9) rfl rfl rfl (by decide) rfl hl.1 rfl (Nat.le_of_ble_eq_true rfl) ⟨Nat.zero_le _, Nat.zero_le _⟩ dX9_chop_21 (fun v I1 L1 H locs hR G => ?_)
  obtain ⟨hv, hI, hL⟩ := hR
  subst hv
  obtain ⟨r_1, er_1⟩ : ∃ r : Nat → Int32, r = (upd mx 2 (nI (recK kp))) := ⟨_, rfl⟩
  rw [← er_1] at hI
  obtain ⟨r_2, er_2⟩ : ∃ r : Nat → Int32, r = (recW d wa kp) := ⟨_, rfl⟩
  rw [← er_2] at hI
  obtain ⟨r_3, er_3⟩ : ∃ r : Nat → Int64, r = (recS lz (lx 3) kp) := ⟨_, rfl⟩
  rw [← er_3] at hL
  have G : GS E (up (up I 161 r_1) 163 r_2) (upL L 164 r_3) sg H locs := G.same hI hL
  refine W.eq (g2 := F0 mg 24 ls []) rfl ?_
  refine lv_aload_n S.1 S.2.1 dX9_chop_24 rfl (lv_at hl 0 rfl) ?_
  refine s_get S hX G (i := 161) (kd := 9) (a := r_1) (v := .ref (E.2.2.2 162)) (C := RX9) (T := TX9) (N := 13) 0 (rfl : sh 161 = 9) ((up_ne (by decide)).trans up_eq) rfl rfl (by decide) rfl (fun _ h => (List.mem_cons_of_mem _ (List.mem_append_right _ h))) (by decide) (List.mem_of_getElem? (i := 2) rfl) (fun _ h => h) dX9_chop_25 ?_
  refine lv_iload_n S.1 S.2.1 dX9_chop_28 rfl (lv_at hl 1 rfl) ?_
  refine s_callS (As := [.int (0 : Int32)]) (rest := [.ref (E.2.2.2 162)]) S hX G (k_X9_loadAt_0 l E) (va_cwS (bytes := cX9_loadAt) (maxL := 1) (ret := (some .int)) 1 S.2.2.2.2 gX9_chop_X9_loadAt rfl rfl rfl (by decide +kernel) ⟨Nat.le_of_ble_eq_true rfl, Nat.le_of_ble_eq_true rfl⟩) rfl hl.1 rfl (Nat.le_of_ble_eq_true rfl) ⟨Nat.zero_le _, Nat.zero_le _⟩ dX9_chop_29 (fun v I1 L1 H locs hR G => ?_)
  obtain ⟨hv, hI, hL⟩ := hR
  subst hv
  have G : GS E (up (up I 161 r_1) 163 r_2) (upL L 164 r_3) sg H locs := G.same hI hL
  refine W.eq (g2 := F0 mg 32 ls [.int (40 : Int32), .ref (E.2.2.2 162)]) rfl ?_
  refine lv_bipush (v := (6 : Int32)) S.1 S.2.1 dX9_chop_32 (by decide) ?_
  refine s_iadd (v := (46 : Int32)) S dX9_chop_34 (by decide) ?_
  refine s_iald S hX G (i := 162) (kd := 284) (n := 270) (a := d) (x := (d 46)) (rfl : sh 162 = 284) ((up_ne (by decide)).trans ((up_ne (by decide)).trans e_d)) rfl (by decide) (by unfold vp_in; decide) (congrArg d (by decide)) dX9_chop_35 ?_
  refine lv_istore_n (lv' := [(3, .int (d 46)), (0, .ref (E.2.2.2 161)), (1, .int (0 : Int32)), (2, .int on)]) S.1 S.2.1 dX9_chop_36 rfl hl (by decide) rfl (fun ls hl => ?_)
  refine lv_aload_n S.1 S.2.1 dX9_chop_37 rfl (lv_at hl 1 rfl) ?_
  refine s_get S hX G (i := 161) (kd := 9) (a := r_1) (v := .ref (E.2.2.2 162)) (C := RX9) (T := TX9) (N := 13) 0 (rfl : sh 161 = 9) ((up_ne (by decide)).trans up_eq) rfl rfl (by decide) rfl (fun _ h => (List.mem_cons_of_mem _ (List.mem_append_right _ h))) (by decide) (List.mem_of_getElem? (i := 2) rfl) (fun _ h => h) dX9_chop_38 ?_
  refine lv_iload_n S.1 S.2.1 dX9_chop_41 rfl (lv_at hl 2 rfl) ?_
  refine s_callS (As := [.int (0 : Int32)]) (rest := [.ref (E.2.2.2 162)]) S hX G (k_X9_loadAt_0 l E) (va_cwS (bytes := cX9_loadAt) (maxL := 1) (ret := (some .int)) 1 S.2.2.2.2 gX9_chop_X9_loadAt rfl rfl rfl (by decide +kernel) ⟨Nat.le_of_ble_eq_true rfl, Nat.le_of_ble_eq_true rfl⟩) rfl hl.1 rfl (Nat.le_of_ble_eq_true rfl) ⟨Nat.zero_le _, Nat.zero_le _⟩ dX9_chop_42 (fun v I1 L1 H locs hR G => ?_)
  obtain ⟨hv, hI, hL⟩ := hR
  subst hv
  have G : GS E (up (up I 161 r_1) 163 r_2) (upL L 164 r_3) sg H locs := G.same hI hL
  refine W.eq (g2 := F0 mg 45 ls [.int (40 : Int32), .ref (E.2.2.2 162)]) rfl ?_
  refine lv_bipush (v := (6 : Int32)) S.1 S.2.1 dX9_chop_45 (by decide) ?_
  refine s_iadd (v := (46 : Int32)) S dX9_chop_47 (by decide) ?_
  refine lv_iload_n S.1 S.2.1 dX9_chop_48 rfl (lv_at hl 3 rfl) ?_
  refine s_iast S hX G (i := 162) (kd := 284) (n := 270) (jn := 46) (a := d) (I' := (up (up (up I 161 r_1) 163 r_2) 162 (upd d 46 on))) (rfl : sh 162 = 284) ((up_ne (by decide)).trans ((up_ne (by decide)).trans e_d)) (fun _ => rfl) (by decide) (by unfold vp_in; decide) (by decide) rfl dX9_chop_49 (fun H locs G => ?_)
  refine lv_aload_n S.1 S.2.1 dX9_chop_50 rfl (lv_at hl 1 rfl) ?_
  refine s_get S hX G (i := 161) (kd := 9) (a := r_1) (v := .ref (E.2.2.2 162)) (C := RX9) (T := TX9) (N := 13) 0 (rfl : sh 161 = 9) ((up_ne (by decide)).trans ((up_ne (by decide)).trans up_eq)) rfl rfl (by decide) rfl (fun _ h => (List.mem_cons_of_mem _ (List.mem_append_right _ h))) (by decide) (List.mem_of_getElem? (i := 2) rfl) (fun _ h => h) dX9_chop_51 ?_
  refine lv_iload_n S.1 S.2.1 dX9_chop_54 rfl (lv_at hl 2 rfl) ?_
  refine s_callS (As := [.int (0 : Int32)]) (rest := [.ref (E.2.2.2 162)]) S hX G (k_X9_loadAt_0 l E) (va_cwS (bytes := cX9_loadAt) (maxL := 1) (ret := (some .int)) 1 S.2.2.2.2 gX9_chop_X9_loadAt rfl rfl rfl (by decide +kernel) ⟨Nat.le_of_ble_eq_true rfl, Nat.le_of_ble_eq_true rfl⟩) rfl hl.1 rfl (Nat.le_of_ble_eq_true rfl) ⟨Nat.zero_le _, Nat.zero_le _⟩ dX9_chop_55 (fun v I1 L1 H locs hR G => ?_)
  obtain ⟨hv, hI, hL⟩ := hR
  subst hv
  have G : GS E (up (up (up I 161 r_1) 163 r_2) 162 (upd d 46 on)) (upL L 164 r_3) sg H locs := G.same hI hL
  refine W.eq (g2 := F0 mg 58 ls [.int (40 : Int32), .ref (E.2.2.2 162)]) rfl ?_
  refine lv_bipush (v := (7 : Int32)) S.1 S.2.1 dX9_chop_58 (by decide) ?_
  refine s_iadd (v := (47 : Int32)) S dX9_chop_60 (by decide) ?_
  refine lv_iload_n S.1 S.2.1 dX9_chop_61 rfl (lv_at hl 3 rfl) ?_
  refine lv_if_ne (tgt := 69) S.1 S.2.1 dX9_chop_62 (by decide) (fun c_4 => ?_) (fun c_4 => ?_)
  · refine lv_aload_n S.1 S.2.1 dX9_chop_69 rfl (lv_at hl 1 rfl) ?_
    refine s_get S hX G (i := 161) (kd := 9) (a := r_1) (v := .ref (E.2.2.2 162)) (C := RX9) (T := TX9) (N := 13) 0 (rfl : sh 161 = 9) ((up_ne (by decide)).trans ((up_ne (by decide)).trans up_eq)) rfl rfl (by decide) rfl (fun _ h => (List.mem_cons_of_mem _ (List.mem_append_right _ h))) (by decide) (List.mem_of_getElem? (i := 2) rfl) (fun _ h => h) dX9_chop_70 ?_
    refine lv_iload_n S.1 S.2.1 dX9_chop_73 rfl (lv_at hl 2 rfl) ?_
    refine s_callS (As := [.int (0 : Int32)]) (rest := [.ref (E.2.2.2 162), .int (47 : Int32), .ref (E.2.2.2 162)]) S hX G (k_X9_loadAt_0 l E) (va_cwS (bytes := cX9_loadAt) (maxL := 1) (ret := (some .int)) 1 S.2.2.2.2 gX9_chop_X9_loadAt rfl rfl rfl (by decide +kernel) ⟨Nat.le_of_ble_eq_true rfl, Nat.le_of_ble_eq_true rfl⟩) rfl hl.1 rfl (Nat.le_of_ble_eq_true rfl) ⟨Nat.zero_le _, Nat.zero_le _⟩ dX9_chop_74 (fun v I1 L1 H locs hR G => ?_)
    obtain ⟨hv, hI, hL⟩ := hR
    subst hv
    have G : GS E (up (up (up I 161 r_1) 163 r_2) 162 (upd d 46 on)) (upL L 164 r_3) sg H locs := G.same hI hL
    refine W.eq (g2 := F0 mg 77 ls [.int (40 : Int32), .ref (E.2.2.2 162), .int (47 : Int32), .ref (E.2.2.2 162)]) rfl ?_
    refine lv_bipush (v := (7 : Int32)) S.1 S.2.1 dX9_chop_77 (by decide) ?_
    refine s_iadd (v := (47 : Int32)) S dX9_chop_79 (by decide) ?_
    refine s_iald S hX G (i := 162) (kd := 284) (n := 270) (a := (upd d 46 on)) (x := (d 47)) (rfl : sh 162 = 284) up_eq rfl (by decide) (by unfold vp_in; decide) (show (upd d 46 on) (Int32.toNatClampNeg (47 : Int32)) = (d 47) from congrArg (upd d 46 on) (show Int32.toNatClampNeg (47 : Int32) = 47 from (by decide))) dX9_chop_80 ?_
    refine s_iast S hX G (i := 162) (kd := 284) (n := 270) (jn := 47) (a := (upd d 46 on)) (I' := (up (up (up I 161 r_1) 163 r_2) 162 (upd (upd d 46 on) 47 (d 47)))) (rfl : sh 162 = 284) up_eq (fun _ => rfl) (by decide) (by unfold vp_in; decide) (by decide) (by rw [up_up]) dX9_chop_81 (fun H locs G => ?_)
    refine lv_iload_n S.1 S.2.1 dX9_chop_82 rfl (lv_at hl 0 rfl) ?_
    refine s_iret (x := (d 46)) S G hr hlk dX9_chop_83 ?_
    exact ⟨rfl, (st_eq3 (Eq.trans ((up_ne (by decide)).trans ((up_ne (by decide)).trans up_eq)) (show r_1 = (upd mx 2 (nI (recK kp))) by subst er_3 er_2 er_1; (first | rfl | (simp only [if_pos c_4]; done) | (simp only [if_neg c_4]; done) | simp [c_4]))) (Eq.trans up_eq (show (upd (upd d 46 on) 47 (d 47)) = (upd (upd d 46 on) 47 (if on = 0 then 0 else d 47)) by subst er_3 er_2 er_1; (first | rfl | (simp only [if_pos c_4]; done) | (simp only [if_neg c_4]; done) | simp [c_4]))) (Eq.trans ((up_ne (by decide)).trans up_eq) (show r_2 = (recW d wa kp) by subst er_3 er_2 er_1; (first | rfl | (simp only [if_pos c_4]; done) | (simp only [if_neg c_4]; done) | simp [c_4]))) (fun _ g0 g1 g2 => ((up_ne g1).trans ((up_ne g2).trans (up_ne g0))))), (lt_eq1 (Eq.trans upL_eq (show r_3 = (recS lz (lx 3) kp) by subst er_3 er_2 er_1; (first | rfl | (simp only [if_pos c_4]; done) | (simp only [if_neg c_4]; done) | simp [c_4]))) (fun _ g0 => (upL_ne g0)))⟩
  · refine lv_iconst (v := (0 : Int32)) S.1 S.2.1 dX9_chop_65 (by decide) ?_
    refine lv_goto (tgt := 81) S.1 S.2.1 dX9_chop_66 (by decide) ?_
    refine s_iast S hX G (i := 162) (kd := 284) (n := 270) (jn := 47) (a := (upd d 46 on)) (I' := (up (up (up I 161 r_1) 163 r_2) 162 (upd (upd d 46 on) 47 (0 : Int32)))) (rfl : sh 162 = 284) up_eq (fun _ => rfl) (by decide) (by unfold vp_in; decide) (by decide) (by rw [up_up]) dX9_chop_81 (fun H locs G => ?_)
    refine lv_iload_n S.1 S.2.1 dX9_chop_82 rfl (lv_at hl 0 rfl) ?_
    refine s_iret (x := (d 46)) S G hr hlk dX9_chop_83 ?_
    exact ⟨rfl, (st_eq3 (Eq.trans ((up_ne (by decide)).trans ((up_ne (by decide)).trans up_eq)) (show r_1 = (upd mx 2 (nI (recK kp))) by subst er_3 er_2 er_1; (first | rfl | (simp only [if_pos c_4]; done) | (simp only [if_neg c_4]; done) | simp [c_4]))) (Eq.trans up_eq (show (upd (upd d 46 on) 47 (0 : Int32)) = (upd (upd d 46 on) 47 (if on = 0 then 0 else d 47)) by subst er_3 er_2 er_1; (first | rfl | (simp only [if_pos c_4]; done) | (simp only [if_neg c_4]; done) | simp [c_4]))) (Eq.trans ((up_ne (by decide)).trans up_eq) (show r_2 = (recW d wa kp) by subst er_3 er_2 er_1; (first | rfl | (simp only [if_pos c_4]; done) | (simp only [if_neg c_4]; done) | simp [c_4]))) (fun _ g0 g1 g2 => ((up_ne g1).trans ((up_ne g2).trans (up_ne g0))))), (lt_eq1 (Eq.trans upL_eq (show r_3 = (recS lz (lx 3) kp) by subst er_3 er_2 er_1; (first | rfl | (simp only [if_pos c_4]; done) | (simp only [if_neg c_4]; done) | simp [c_4]))) (fun _ g0 => (upL_ne g0)))⟩
set_option maxHeartbeats 4000000 in
set_option maxRecDepth 100000 in
theorem k_X9_setLoad_ok_1 (l : Launch) (E : Ev) {I : SI} {L : SL} (q : Nat) (value : Int32) (mx : Nat → Int32) (d : Nat → Int32) (wa : Nat → Int32) (lx : Nat → Int64) (lz : Nat → Int64) (kp : Nat) (e_mx : I (161) = mx) (e_d : I (162) = d) (e_wa : I (163) = wa) (e_lx : L (161) = lx) (e_lz : L (164) = lz) (hx : mx 2 = nI kp) (hkp : kp ≤ 4) (hq : q < 4) (ht : TK4 (nI q) value) : CS l yX9_setLoad wsX9_setLoad ({ frames := 2, cells := 0, slots := 0, locals := 46 }) E [.ref (E.2.2.2 161), .int (1 : Int32), .int (nI q), .int value] I L (fun vv I' L' => vv = some (.int (d (70 + q))) ∧ I' = (up (up (up I (161) (upd mx 2 (nI (recK kp)))) (162) (upd d (70 + q) value)) (163) (recW d wa kp)) ∧ L' = (upL L (164) (recS lz (lx 3) kp))) := by
  refine CS.of (cc := cX9_setLoad) (maxL := 5) (ret := (some .int)) (by decide) rfl (Nat.le_of_ble_eq_true rfl) ?_
  intro pg en sg mg below meth cg ls S hr hlk hX G hl
  have S : CallFix pg mg cg cX9_setLoad 5 sg _ wsX9_setLoad RX9 := S
  have hl : lv_has ls 5 [(0, .ref (E.2.2.2 161)), (1, .int (1 : Int32)), (2, .int (nI q)), (3, .int value)] := hl
  refine lv_iload_n S.1 S.2.1 dX9_setLoad_0 rfl (lv_at hl 1 rfl) ?_
  refine s_callS (As := [.int (1 : Int32)]) (rest := []) S hX G (k_X9_isLoad l E (1 : Int32)) (va_cwS (bytes := cX9_isLoad) (maxL := 1) (ret := (some .boolean)) 1 S.2.2.2.2 gX9_setLoad_X9_isLoad rfl rfl rfl (by decide +kernel) ⟨Nat.le_of_ble_eq_true rfl, Nat.le_of_ble_eq_true rfl⟩) rfl hl.1 rfl (Nat.le_of_ble_eq_true rfl) ⟨Nat.zero_le _, Nat.zero_le _⟩ dX9_setLoad_1 (fun v I1 L1 H locs hR G => ?_)
  obtain ⟨hv, hI, hL⟩ := hR
  subst hv
  have G : GS E I L sg H locs := G.same hI hL
  refine W.eq (g2 := F0 mg 4 ls [.int (if ¬ (1 : Int32) < (0 : Int32) ∧ ¬ (1 : Int32) < (1 : Int32) then 1 else 0)]) rfl ?_
  refine s_if_eq_b (P := ¬ (1 : Int32) < (0 : Int32) ∧ ¬ (1 : Int32) < (1 : Int32)) (tgt := 15) S dX9_setLoad_4 (by decide) (fun h => absurd (by decide) h) (fun _ => ?_)
  refine lv_iload_n S.1 S.2.1 dX9_setLoad_7 rfl (lv_at hl 2 rfl) ?_
  refine lv_iload_n S.1 S.2.1 dX9_setLoad_8 rfl (lv_at hl 3 rfl) ?_
  refine s_callS (As := [.int (nI q), .int value]) (rest := []) S hX G (k_X9_isOfLoad l E (nI q) value) (va_cwS (bytes := cX9_isOfLoad) (maxL := 2) (ret := (some .boolean)) 2 S.2.2.2.2 gX9_setLoad_X9_isOfLoad rfl rfl rfl (by decide +kernel) ⟨Nat.le_of_ble_eq_true rfl, Nat.le_of_ble_eq_true rfl⟩) rfl hl.1 rfl (Nat.le_of_ble_eq_true rfl) ⟨Nat.zero_le _, Nat.zero_le _⟩ dX9_setLoad_9 (fun v I1 L1 H locs hR G => ?_)
  obtain ⟨hv, hI, hL⟩ := hR
  subst hv
  have G : GS E I L sg H locs := G.same hI hL
  refine W.eq (g2 := F0 mg 12 ls [.int (if TK4 (nI q) value then 1 else 0)]) rfl ?_
  refine s_if_ne_b (P := TK4 (nI q) value) (tgt := 18) S dX9_setLoad_12 (by decide) (fun _ => ?_) (fun h => absurd ht h)
  refine lv_aload_n S.1 S.2.1 dX9_setLoad_18 rfl (lv_at hl 0 rfl) ?_
  refine s_callV (C := RX9) (As := []) (rest := []) (i := 161) (kd := 9) S hX G (k_X9_records l E mx d wa lx lz kp e_mx e_d e_wa e_lx e_lz hx hkp) (cwV (bytes := cX9_records) (maxL := 2) (ret := none) 0 S.2.2.2.2 gX9_setLoad_X9_records rfl rfl rfl (by decide +kernel) ⟨Nat.le_of_ble_eq_true rfl, Nat.le_of_ble_eq_true rfl⟩) (rfl : sh 161 = 9) rfl rfl rfl (by decide) rfl hl.1 rfl (Nat.le_of_ble_eq_true rfl) ⟨Nat.zero_le _, Nat.zero_le _⟩ dX9_setLoad_19 (fun v I1 L1 H locs hR G => ?_)
  obtain ⟨hv, hI, hL⟩ := hR
  subst hv
  obtain ⟨r_1, er_1⟩ : ∃ r : Nat → Int32, r = (upd mx 2 (nI (recK kp))) := ⟨_, rfl⟩
  rw [← er_1] at hI
  obtain ⟨r_2, er_2⟩ : ∃ r : Nat → Int32, r = (recW d wa kp) := ⟨_, rfl⟩
  rw [← er_2] at hI
  obtain ⟨r_3, er_3⟩ : ∃ r : Nat → Int64, r = (recS lz (lx 3) kp) := ⟨_, rfl⟩
  rw [← er_3] at hL
  have G : GS E (up (up I 161 r_1) 163 r_2) (upL L 164 r_3) sg H locs := G.same hI hL
  refine W.eq (g2 := F0 mg 22 ls []) rfl ?_
  refine lv_aload_n S.1 S.2.1 dX9_setLoad_22 rfl (lv_at hl 0 rfl) ?_
  refine s_get S hX G (i := 161) (kd := 9) (a := r_1) (v := .ref (E.2.2.2 162)) (C := RX9) (T := TX9) (N := 13) 0 (rfl : sh 161 = 9) ((up_ne (by decide)).trans up_eq) rfl rfl (by decide) rfl (fun _ h => (List.mem_cons_of_mem _ (List.mem_append_right _ h))) (by decide) (List.mem_of_getElem? (i := 2) rfl) (fun _ h => h) dX9_setLoad_23 ?_
  refine lv_iload_n S.1 S.2.1 dX9_setLoad_26 rfl (lv_at hl 1 rfl) ?_
  refine s_callS (As := [.int (1 : Int32)]) (rest := [.ref (E.2.2.2 162)]) S hX G (k_X9_loadAt_1 l E) (va_cwS (bytes := cX9_loadAt) (maxL := 1) (ret := (some .int)) 1 S.2.2.2.2 gX9_setLoad_X9_loadAt rfl rfl rfl (by decide +kernel) ⟨Nat.le_of_ble_eq_true rfl, Nat.le_of_ble_eq_true rfl⟩) rfl hl.1 rfl (Nat.le_of_ble_eq_true rfl) ⟨Nat.zero_le _, Nat.zero_le _⟩ dX9_setLoad_27 (fun v I1 L1 H locs hR G => ?_)
  obtain ⟨hv, hI, hL⟩ := hR
  subst hv
  have G : GS E (up (up I 161 r_1) 163 r_2) (upL L 164 r_3) sg H locs := G.same hI hL
  refine W.eq (g2 := F0 mg 30 ls [.int (70 : Int32), .ref (E.2.2.2 162)]) rfl ?_
  refine lv_iload_n S.1 S.2.1 dX9_setLoad_30 rfl (lv_at hl 2 rfl) ?_
  refine s_iadd (v := (nI (70 + q))) S dX9_setLoad_31 (nI_add 70 q) ?_
  refine s_iald S hX G (i := 162) (kd := 284) (n := 270) (a := d) (x := (d (70 + q))) (rfl : sh 162 = 284) ((up_ne (by decide)).trans ((up_ne (by decide)).trans e_d)) rfl (by decide) (vp_in_nI (by omega) (by decide)) (congrArg d (nI_clamp (by omega))) dX9_setLoad_32 ?_
  refine lv_istore (lv' := [(4, .int (d (70 + q))), (0, .ref (E.2.2.2 161)), (1, .int (1 : Int32)), (2, .int (nI q)), (3, .int value)]) S.1 S.2.1 dX9_setLoad_33 hl (by decide) rfl (fun ls hl => ?_)
  refine lv_aload_n S.1 S.2.1 dX9_setLoad_35 rfl (lv_at hl 1 rfl) ?_
  refine s_get S hX G (i := 161) (kd := 9) (a := r_1) (v := .ref (E.2.2.2 162)) (C := RX9) (T := TX9) (N := 13) 0 (rfl : sh 161 = 9) ((up_ne (by decide)).trans up_eq) rfl rfl (by decide) rfl (fun _ h => (List.mem_cons_of_mem _ (List.mem_append_right _ h))) (by decide) (List.mem_of_getElem? (i := 2) rfl) (fun _ h => h) dX9_setLoad_36 ?_
  refine lv_iload_n S.1 S.2.1 dX9_setLoad_39 rfl (lv_at hl 2 rfl) ?_
  refine s_callS (As := [.int (1 : Int32)]) (rest := [.ref (E.2.2.2 162)]) S hX G (k_X9_loadAt_1 l E) (va_cwS (bytes := cX9_loadAt) (maxL := 1) (ret := (some .int)) 1 S.2.2.2.2 gX9_setLoad_X9_loadAt rfl rfl rfl (by decide +kernel) ⟨Nat.le_of_ble_eq_true rfl, Nat.le_of_ble_eq_true rfl⟩) rfl hl.1 rfl (Nat.le_of_ble_eq_true rfl) ⟨Nat.zero_le _, Nat.zero_le _⟩ dX9_setLoad_40 (fun v I1 L1 H locs hR G => ?_)
  obtain ⟨hv, hI, hL⟩ := hR
  subst hv
  have G : GS E (up (up I 161 r_1) 163 r_2) (upL L 164 r_3) sg H locs := G.same hI hL
  refine W.eq (g2 := F0 mg 43 ls [.int (70 : Int32), .ref (E.2.2.2 162)]) rfl ?_
  refine lv_iload_n S.1 S.2.1 dX9_setLoad_43 rfl (lv_at hl 3 rfl) ?_
  refine s_iadd (v := (nI (70 + q))) S dX9_setLoad_44 (nI_add 70 q) ?_
  refine lv_iload_n S.1 S.2.1 dX9_setLoad_45 rfl (lv_at hl 4 rfl) ?_
  refine s_iast S hX G (i := 162) (kd := 284) (n := 270) (jn := (70 + q)) (a := d) (I' := (up (up (up I 161 r_1) 163 r_2) 162 (upd d (70 + q) value))) (rfl : sh 162 = 284) ((up_ne (by decide)).trans ((up_ne (by decide)).trans e_d)) (fun _ => rfl) (by decide) (vp_in_nI (by omega) (by decide)) (nI_clamp (by omega)) rfl dX9_setLoad_46 (fun H locs G => ?_)
  refine lv_iload S.1 S.2.1 dX9_setLoad_47 (lv_at hl 0 rfl) ?_
  refine s_iret (x := (d (70 + q))) S G hr hlk dX9_setLoad_49 ?_
  exact ⟨rfl, (st_eq3 (Eq.trans ((up_ne (by decide)).trans ((up_ne (by decide)).trans up_eq)) (show r_1 = (upd mx 2 (nI (recK kp))) by subst er_3 er_2 er_1; rfl)) up_eq (Eq.trans ((up_ne (by decide)).trans up_eq) (show r_2 = (recW d wa kp) by subst er_3 er_2 er_1; rfl)) (fun _ g0 g1 g2 => ((up_ne g1).trans ((up_ne g2).trans (up_ne g0))))), (lt_eq1 (Eq.trans upL_eq (show r_3 = (recS lz (lx 3) kp) by subst er_3 er_2 er_1; rfl)) (fun _ g0 => (upL_ne g0)))⟩
set_option maxHeartbeats 4000000 in
set_option maxRecDepth 100000 in
theorem k_X9_chop_ok_1 (l : Launch) (E : Ev) {I : SI} {L : SL} (on : Int32) (mx : Nat → Int32) (d : Nat → Int32) (wa : Nat → Int32) (lx : Nat → Int64) (lz : Nat → Int64) (kp : Nat) (e_mx : I (161) = mx) (e_d : I (162) = d) (e_wa : I (163) = wa) (e_lx : L (161) = lx) (e_lz : L (164) = lz) (hx : mx 2 = nI kp) (hkp : kp ≤ 4) (ht : IN1 on) : CS l yX9_chop wsX9_chop ({ frames := 2, cells := 0, slots := 0, locals := 45 }) E [.ref (E.2.2.2 161), .int (1 : Int32), .int on] I L (fun vv I' L' => vv = some (.int (d 76)) ∧ I' = (up (up (up I (161) (upd mx 2 (nI (recK kp)))) (162) (upd (upd d 76 on) 77 (if on = 0 then 0 else d 77))) (163) (recW d wa kp)) ∧ L' = (upL L (164) (recS lz (lx 3) kp))) := by
  refine CS.of (cc := cX9_chop) (maxL := 4) (ret := (some .int)) (by decide) rfl (Nat.le_of_ble_eq_true rfl) ?_
  intro pg en sg mg below meth cg ls S hr hlk hX G hl
  have S : CallFix pg mg cg cX9_chop 4 sg _ wsX9_chop RX9 := S
  have hl : lv_has ls 4 [(0, .ref (E.2.2.2 161)), (1, .int (1 : Int32)), (2, .int on)] := hl
  refine lv_iload_n S.1 S.2.1 dX9_chop_0 rfl (lv_at hl 1 rfl) ?_
  refine s_callS (As := [.int (1 : Int32)]) (rest := []) S hX G (k_X9_isLoad l E (1 : Int32)) (va_cwS (bytes := cX9_isLoad) (maxL := 1) (ret := (some .boolean)) 1 S.2.2.2.2 gX9_chop_X9_isLoad rfl rfl rfl (by decide +kernel) ⟨Nat.le_of_ble_eq_true rfl, Nat.le_of_ble_eq_true rfl⟩) rfl hl.1 rfl (Nat.le_of_ble_eq_true rfl) ⟨Nat.zero_le _, Nat.zero_le _⟩ dX9_chop_1 (fun v I1 L1 H locs hR G => ?_)
  obtain ⟨hv, hI, hL⟩ := hR
  subst hv
  have G : GS E I L sg H locs := G.same hI hL
  refine W.eq (g2 := F0 mg 4 ls [.int (if ¬ (1 : Int32) < (0 : Int32) ∧ ¬ (1 : Int32) < (1 : Int32) then 1 else 0)]) rfl ?_
  refine s_if_eq_b (P := ¬ (1 : Int32) < (0 : Int32) ∧ ¬ (1 : Int32) < (1 : Int32)) (tgt := 17) S dX9_chop_4 (by decide) (fun h => absurd (by decide) h) (fun _ => ?_)
  refine lv_iload_n S.1 S.2.1 dX9_chop_7 rfl (lv_at hl 2 rfl) ?_
  refine lv_i2l (v := (Int32.toInt64 on)) S.1 S.2.1 dX9_chop_8 rfl ?_
  refine lv_lconst (v := (0 : Int64)) S.1 S.2.1 dX9_chop_9 (by decide) ?_
  refine lv_lconst (v := (1 : Int64)) S.1 S.2.1 dX9_chop_10 (by decide) ?_
  refine s_callS (As := [.long (Int32.toInt64 on), .long (0 : Int64), .long (1 : Int64)]) (rest := []) S hX G (k_X9_in l E (Int32.toInt64 on) (0 : Int64) (1 : Int64)) (va_cwS (bytes := cX9_in) (maxL := 6) (ret := (some .boolean)) 3 S.2.2.2.2 gX9_chop_X9_in rfl rfl rfl (by decide +kernel) ⟨Nat.le_of_ble_eq_true rfl, Nat.le_of_ble_eq_true rfl⟩) rfl hl.1 rfl (Nat.le_of_ble_eq_true rfl) ⟨Nat.zero_le _, Nat.zero_le _⟩ dX9_chop_11 (fun v I1 L1 H locs hR G => ?_)
  obtain ⟨hv, hI, hL⟩ := hR
  subst hv
  have G : GS E I L sg H locs := G.same hI hL
  refine W.eq (g2 := F0 mg 14 ls [.int (if ¬ (Int32.toInt64 on) < (0 : Int64) ∧ ¬ (1 : Int64) < (Int32.toInt64 on) then 1 else 0)]) rfl ?_
  refine s_if_ne_b (P := ¬ (Int32.toInt64 on) < (0 : Int64) ∧ ¬ (1 : Int64) < (Int32.toInt64 on)) (tgt := 20) S dX9_chop_14 (by decide) (fun _ => ?_) (fun h => absurd (in64 (a := 0) (b := 1) ht (by decide) (by decide)) h)
  refine lv_aload_n S.1 S.2.1 dX9_chop_20 rfl (lv_at hl 0 rfl) ?_
  refine s_callV (C := RX9) (As := []) (rest := []) (i := 161) (kd := 9) S hX G (k_X9_records l E mx d wa lx lz kp e_mx e_d e_wa e_lx e_lz hx hkp) (cwV (bytes := cX9_records) (maxL := 2) (ret := none) 0 S.2.2.2.2 gX9_chop_X9_records rfl rfl rfl (by decide +kernel) ⟨Nat.le_of_ble_eq_true rfl, Nat.le_of_ble_eq_true rfl⟩) (rfl : sh 161 = 9) rfl rfl rfl (by decide) rfl hl.1 rfl (Nat.le_of_ble_eq_true rfl) ⟨Nat.zero_le _, Nat.zero_le _⟩ dX9_chop_21 (fun v I1 L1 H locs hR G => ?_)
  obtain ⟨hv, hI, hL⟩ := hR
  subst hv
  obtain ⟨r_1, er_1⟩ : ∃ r : Nat → Int32, r = (upd mx 2 (nI (recK kp))) := ⟨_, rfl⟩
  rw [← er_1] at hI
  obtain ⟨r_2, er_2⟩ : ∃ r : Nat → Int32, r = (recW d wa kp) := ⟨_, rfl⟩
  rw [← er_2] at hI
  obtain ⟨r_3, er_3⟩ : ∃ r : Nat → Int64, r = (recS lz (lx 3) kp) := ⟨_, rfl⟩
  rw [← er_3] at hL
  have G : GS E (up (up I 161 r_1) 163 r_2) (upL L 164 r_3) sg H locs := G.same hI hL
  refine W.eq (g2 := F0 mg 24 ls []) rfl ?_
  refine lv_aload_n S.1 S.2.1 dX9_chop_24 rfl (lv_at hl 0 rfl) ?_
  refine s_get S hX G (i := 161) (kd := 9) (a := r_1) (v := .ref (E.2.2.2 162)) (C := RX9) (T := TX9) (N := 13) 0 (rfl : sh 161 = 9) ((up_ne (by decide)).trans up_eq) rfl rfl (by decide) rfl (fun _ h => (List.mem_cons_of_mem _ (List.mem_append_right _ h))) (by decide) (List.mem_of_getElem? (i := 2) rfl) (fun _ h => h) dX9_chop_25 ?_
  refine lv_iload_n S.1 S.2.1 dX9_chop_28 rfl (lv_at hl 1 rfl) ?_
  refine s_callS (As := [.int (1 : Int32)]) (rest := [.ref (E.2.2.2 162)]) S hX G (k_X9_loadAt_1 l E) (va_cwS (bytes := cX9_loadAt) (maxL := 1) (ret := (some .int)) 1 S.2.2.2.2 gX9_chop_X9_loadAt rfl rfl rfl (by decide +kernel) ⟨Nat.le_of_ble_eq_true rfl, Nat.le_of_ble_eq_true rfl⟩) rfl hl.1 rfl (Nat.le_of_ble_eq_true rfl) ⟨Nat.zero_le _, Nat.zero_le _⟩ dX9_chop_29 (fun v I1 L1 H locs hR G => ?_)
  obtain ⟨hv, hI, hL⟩ := hR
  subst hv
  have G : GS E (up (up I 161 r_1) 163 r_2) (upL L 164 r_3) sg H locs := G.same hI hL
  refine W.eq (g2 := F0 mg 32 ls [.int (70 : Int32), .ref (E.2.2.2 162)]) rfl ?_
  refine lv_bipush (v := (6 : Int32)) S.1 S.2.1 dX9_chop_32 (by decide) ?_
  refine s_iadd (v := (76 : Int32)) S dX9_chop_34 (by decide) ?_
  refine s_iald S hX G (i := 162) (kd := 284) (n := 270) (a := d) (x := (d 76)) (rfl : sh 162 = 284) ((up_ne (by decide)).trans ((up_ne (by decide)).trans e_d)) rfl (by decide) (by unfold vp_in; decide) (congrArg d (by decide)) dX9_chop_35 ?_
  refine lv_istore_n (lv' := [(3, .int (d 76)), (0, .ref (E.2.2.2 161)), (1, .int (1 : Int32)), (2, .int on)]) S.1 S.2.1 dX9_chop_36 rfl hl (by decide) rfl (fun ls hl => ?_)
  refine lv_aload_n S.1 S.2.1 dX9_chop_37 rfl (lv_at hl 1 rfl) ?_
  refine s_get S hX G (i := 161) (kd := 9) (a := r_1) (v := .ref (E.2.2.2 162)) (C := RX9) (T := TX9) (N := 13) 0 (rfl : sh 161 = 9) ((up_ne (by decide)).trans up_eq) rfl rfl (by decide) rfl (fun _ h => (List.mem_cons_of_mem _ (List.mem_append_right _ h))) (by decide) (List.mem_of_getElem? (i := 2) rfl) (fun _ h => h) dX9_chop_38 ?_
  refine lv_iload_n S.1 S.2.1 dX9_chop_41 rfl (lv_at hl 2 rfl) ?_
  refine s_callS (As := [.int (1 : Int32)]) (rest := [.ref (E.2.2.2 162)]) S hX G (k_X9_loadAt_1 l E) (va_cwS (bytes := cX9_loadAt) (maxL := 1) (ret := (some .int)) 1 S.2.2.2.2 gX9_chop_X9_loadAt rfl rfl rfl (by decide +kernel) ⟨Nat.le_of_ble_eq_true rfl, Nat.le_of_ble_eq_true rfl⟩) rfl hl.1 rfl (Nat.le_of_ble_eq_true rfl) ⟨Nat.zero_le _, Nat.zero_le _⟩ dX9_chop_42 (fun v I1 L1 H locs hR G => ?_)
  obtain ⟨hv, hI, hL⟩ := hR
  subst hv
  have G : GS E (up (up I 161 r_1) 163 r_2) (upL L 164 r_3) sg H locs := G.same hI hL
  refine W.eq (g2 := F0 mg 45 ls [.int (70 : Int32), .ref (E.2.2.2 162)]) rfl ?_
  refine lv_bipush (v := (6 : Int32)) S.1 S.2.1 dX9_chop_45 (by decide) ?_
  refine s_iadd (v := (76 : Int32)) S dX9_chop_47 (by decide) ?_
  refine lv_iload_n S.1 S.2.1 dX9_chop_48 rfl (lv_at hl 3 rfl) ?_
  refine s_iast S hX G (i := 162) (kd := 284) (n := 270) (jn := 76) (a := d) (I' := (up (up (up I 161 r_1) 163 r_2) 162 (upd d 76 on))) (rfl : sh 162 = 284) ((up_ne (by decide)).trans ((up_ne (by decide)).trans e_d)) (fun _ => rfl) (by decide) (by unfold vp_in; decide) (by decide) rfl dX9_chop_49 (fun H locs G => ?_)
  refine lv_aload_n S.1 S.2.1 dX9_chop_50 rfl (lv_at hl 1 rfl) ?_
  refine s_get S hX G (i := 161) (kd := 9) (a := r_1) (v := .ref (E.2.2.2 162)) (C := RX9) (T := TX9) (N := 13) 0 (rfl : sh 161 = 9) ((up_ne (by decide)).trans ((up_ne (by decide)).trans up_eq)) rfl rfl (by decide) rfl (fun _ h => (List.mem_cons_of_mem _ (List.mem_append_right _ h))) (by decide) (List.mem_of_getElem? (i := 2) rfl) (fun _ h => h) dX9_chop_51 ?_
  refine lv_iload_n S.1 S.2.1 dX9_chop_54 rfl (lv_at hl 2 rfl) ?_
  refine s_callS (As := [.int (1 : Int32)]) (rest := [.ref (E.2.2.2 162)]) S hX G (k_X9_loadAt_1 l E) (va_cwS (bytes := cX9_loadAt) (maxL := 1) (ret := (some .int)) 1 S.2.2.2.2 gX9_chop_X9_loadAt rfl rfl rfl (by decide +kernel) ⟨Nat.le_of_ble_eq_true rfl, Nat.le_of_ble_eq_true rfl⟩) rfl hl.1 rfl (Nat.le_of_ble_eq_true rfl) ⟨Nat.zero_le _, Nat.zero_le _⟩ dX9_chop_55 (fun v I1 L1 H locs hR G => ?_)
  obtain ⟨hv, hI, hL⟩ := hR
  subst hv
  have G : GS E (up (up (up I 161 r_1) 163 r_2) 162 (upd d 76 on)) (upL L 164 r_3) sg H locs := G.same hI hL
  refine W.eq (g2 := F0 mg 58 ls [.int (70 : Int32), .ref (E.2.2.2 162)]) rfl ?_
  refine lv_bipush (v := (7 : Int32)) S.1 S.2.1 dX9_chop_58 (by decide) ?_
  refine s_iadd (v := (77 : Int32)) S dX9_chop_60 (by decide) ?_
  refine lv_iload_n S.1 S.2.1 dX9_chop_61 rfl (lv_at hl 3 rfl) ?_
  refine lv_if_ne (tgt := 69) S.1 S.2.1 dX9_chop_62 (by decide) (fun c_4 => ?_) (fun c_4 => ?_)
  · refine lv_aload_n S.1 S.2.1 dX9_chop_69 rfl (lv_at hl 1 rfl) ?_
    refine s_get S hX G (i := 161) (kd := 9) (a := r_1) (v := .ref (E.2.2.2 162)) (C := RX9) (T := TX9) (N := 13) 0 (rfl : sh 161 = 9) ((up_ne (by decide)).trans ((up_ne (by decide)).trans up_eq)) rfl rfl (by decide) rfl (fun _ h => (List.mem_cons_of_mem _ (List.mem_append_right _ h))) (by decide) (List.mem_of_getElem? (i := 2) rfl) (fun _ h => h) dX9_chop_70 ?_
    refine lv_iload_n S.1 S.2.1 dX9_chop_73 rfl (lv_at hl 2 rfl) ?_
    refine s_callS (As := [.int (1 : Int32)]) (rest := [.ref (E.2.2.2 162), .int (77 : Int32), .ref (E.2.2.2 162)]) S hX G (k_X9_loadAt_1 l E) (va_cwS (bytes := cX9_loadAt) (maxL := 1) (ret := (some .int)) 1 S.2.2.2.2 gX9_chop_X9_loadAt rfl rfl rfl (by decide +kernel) ⟨Nat.le_of_ble_eq_true rfl, Nat.le_of_ble_eq_true rfl⟩) rfl hl.1 rfl (Nat.le_of_ble_eq_true rfl) ⟨Nat.zero_le _, Nat.zero_le _⟩ dX9_chop_74 (fun v I1 L1 H locs hR G => ?_)
    obtain ⟨hv, hI, hL⟩ := hR
    subst hv
    have G : GS E (up (up (up I 161 r_1) 163 r_2) 162 (upd d 76 on)) (upL L 164 r_3) sg H locs := G.same hI hL
    refine W.eq (g2 := F0 mg 77 ls [.int (70 : Int32), .ref (E.2.2.2 162), .int (77 : Int32), .ref (E.2.2.2 162)]) rfl ?_
    refine lv_bipush (v := (7 : Int32)) S.1 S.2.1 dX9_chop_77 (by decide) ?_
    refine s_iadd (v := (77 : Int32)) S dX9_chop_79 (by decide) ?_
    refine s_iald S hX G (i := 162) (kd := 284) (n := 270) (a := (upd d 76 on)) (x := (d 77)) (rfl : sh 162 = 284) up_eq rfl (by decide) (by unfold vp_in; decide) (show (upd d 76 on) (Int32.toNatClampNeg (77 : Int32)) = (d 77) from congrArg (upd d 76 on) (show Int32.toNatClampNeg (77 : Int32) = 77 from (by decide))) dX9_chop_80 ?_
    refine s_iast S hX G (i := 162) (kd := 284) (n := 270) (jn := 77) (a := (upd d 76 on)) (I' := (up (up (up I 161 r_1) 163 r_2) 162 (upd (upd d 76 on) 77 (d 77)))) (rfl : sh 162 = 284) up_eq (fun _ => rfl) (by decide) (by unfold vp_in; decide) (by decide) (by rw [up_up]) dX9_chop_81 (fun H locs G => ?_)
    refine lv_iload_n S.1 S.2.1 dX9_chop_82 rfl (lv_at hl 0 rfl) ?_
    refine s_iret (x := (d 76)) S G hr hlk dX9_chop_83 ?_
    exact ⟨rfl, (st_eq3 (Eq.trans ((up_ne (by decide)).trans ((up_ne (by decide)).trans up_eq)) (show r_1 = (upd mx 2 (nI (recK kp))) by subst er_3 er_2 er_1; (first | rfl | (simp only [if_pos c_4]; done) | (simp only [if_neg c_4]; done) | simp [c_4]))) (Eq.trans up_eq (show (upd (upd d 76 on) 77 (d 77)) = (upd (upd d 76 on) 77 (if on = 0 then 0 else d 77)) by subst er_3 er_2 er_1; (first | rfl | (simp only [if_pos c_4]; done) | (simp only [if_neg c_4]; done) | simp [c_4]))) (Eq.trans ((up_ne (by decide)).trans up_eq) (show r_2 = (recW d wa kp) by subst er_3 er_2 er_1; (first | rfl | (simp only [if_pos c_4]; done) | (simp only [if_neg c_4]; done) | simp [c_4]))) (fun _ g0 g1 g2 => ((up_ne g1).trans ((up_ne g2).trans (up_ne g0))))), (lt_eq1 (Eq.trans upL_eq (show r_3 = (recS lz (lx 3) kp) by subst er_3 er_2 er_1; (first | rfl | (simp only [if_pos c_4]; done) | (simp only [if_neg c_4]; done) | simp [c_4]))) (fun _ g0 => (upL_ne g0)))⟩
  · refine lv_iconst (v := (0 : Int32)) S.1 S.2.1 dX9_chop_65 (by decide) ?_
    refine lv_goto (tgt := 81) S.1 S.2.1 dX9_chop_66 (by decide) ?_
    refine s_iast S hX G (i := 162) (kd := 284) (n := 270) (jn := 77) (a := (upd d 76 on)) (I' := (up (up (up I 161 r_1) 163 r_2) 162 (upd (upd d 76 on) 77 (0 : Int32)))) (rfl : sh 162 = 284) up_eq (fun _ => rfl) (by decide) (by unfold vp_in; decide) (by decide) (by rw [up_up]) dX9_chop_81 (fun H locs G => ?_)
    refine lv_iload_n S.1 S.2.1 dX9_chop_82 rfl (lv_at hl 0 rfl) ?_
    refine s_iret (x := (d 76)) S G hr hlk dX9_chop_83 ?_
    exact ⟨rfl, (st_eq3 (Eq.trans ((up_ne (by decide)).trans ((up_ne (by decide)).trans up_eq)) (show r_1 = (upd mx 2 (nI (recK kp))) by subst er_3 er_2 er_1; (first | rfl | (simp only [if_pos c_4]; done) | (simp only [if_neg c_4]; done) | simp [c_4]))) (Eq.trans up_eq (show (upd (upd d 76 on) 77 (0 : Int32)) = (upd (upd d 76 on) 77 (if on = 0 then 0 else d 77)) by subst er_3 er_2 er_1; (first | rfl | (simp only [if_pos c_4]; done) | (simp only [if_neg c_4]; done) | simp [c_4]))) (Eq.trans ((up_ne (by decide)).trans up_eq) (show r_2 = (recW d wa kp) by subst er_3 er_2 er_1; (first | rfl | (simp only [if_pos c_4]; done) | (simp only [if_neg c_4]; done) | simp [c_4]))) (fun _ g0 g1 g2 => ((up_ne g1).trans ((up_ne g2).trans (up_ne g0))))), (lt_eq1 (Eq.trans upL_eq (show r_3 = (recS lz (lx 3) kp) by subst er_3 er_2 er_1; (first | rfl | (simp only [if_pos c_4]; done) | (simp only [if_neg c_4]; done) | simp [c_4]))) (fun _ g0 => (upL_ne g0)))⟩
set_option maxHeartbeats 4000000 in
set_option maxRecDepth 100000 in
theorem k_X9_setLoad_no (l : Launch) (E : Ev) {I : SI} {L : SL} (load : Int32) (what : Int32) (value : Int32) (ht : ¬ (IN1 load ∧ TK4 what value)) : CS l yX9_setLoad wsX9_setLoad ({ frames := 2, cells := 0, slots := 0, locals := 46 }) E [.ref (E.2.2.2 161), .int load, .int what, .int value] I L (fun vv I' L' => vv = some (.int (-2000000001 : Int32)) ∧ I' = I ∧ L' = L) := by
  refine CS.of (cc := cX9_setLoad) (maxL := 5) (ret := (some .int)) (by decide) rfl (Nat.le_of_ble_eq_true rfl) ?_
  intro pg en sg mg below meth cg ls S hr hlk hX G hl
  have S : CallFix pg mg cg cX9_setLoad 5 sg _ wsX9_setLoad RX9 := S
  have hl : lv_has ls 5 [(0, .ref (E.2.2.2 161)), (1, .int load), (2, .int what), (3, .int value)] := hl
  refine lv_iload_n S.1 S.2.1 dX9_setLoad_0 rfl (lv_at hl 1 rfl) ?_
  refine s_callS (As := [.int load]) (rest := []) S hX G (k_X9_isLoad l E load) (va_cwS (bytes := cX9_isLoad) (maxL := 1) (ret := (some .boolean)) 1 S.2.2.2.2 gX9_setLoad_X9_isLoad rfl rfl rfl (by decide +kernel) ⟨Nat.le_of_ble_eq_true rfl, Nat.le_of_ble_eq_true rfl⟩) rfl hl.1 rfl (Nat.le_of_ble_eq_true rfl) ⟨Nat.zero_le _, Nat.zero_le _⟩ dX9_setLoad_1 (fun v I1 L1 H locs hR G => ?_)
  obtain ⟨hv, hI, hL⟩ := hR
  subst hv
  have G : GS E I L sg H locs := G.same hI hL
  refine W.eq (g2 := F0 mg 4 ls [.int (if ¬ load < (0 : Int32) ∧ ¬ (1 : Int32) < load then 1 else 0)]) rfl ?_
  refine s_if_eq_b (P := ¬ load < (0 : Int32) ∧ ¬ (1 : Int32) < load) (tgt := 15) S dX9_setLoad_4 (by decide) (fun c_1 => ?_) (fun c_1 => ?_)
  · refine lv_ldc (v := (-2000000001 : Int32)) S.1 S.2.1 S.2.2.2.1 (S.2.2.2.2 _ (List.mem_of_getElem? (i := 1) rfl)) dX9_setLoad_15 ?_
    refine s_iret (x := (-2000000001 : Int32)) S G hr hlk dX9_setLoad_17 ?_
    exact ⟨rfl, rfl, rfl⟩
  · refine lv_iload_n S.1 S.2.1 dX9_setLoad_7 rfl (lv_at hl 2 rfl) ?_
    refine lv_iload_n S.1 S.2.1 dX9_setLoad_8 rfl (lv_at hl 3 rfl) ?_
    refine s_callS (As := [.int what, .int value]) (rest := []) S hX G (k_X9_isOfLoad l E what value) (va_cwS (bytes := cX9_isOfLoad) (maxL := 2) (ret := (some .boolean)) 2 S.2.2.2.2 gX9_setLoad_X9_isOfLoad rfl rfl rfl (by decide +kernel) ⟨Nat.le_of_ble_eq_true rfl, Nat.le_of_ble_eq_true rfl⟩) rfl hl.1 rfl (Nat.le_of_ble_eq_true rfl) ⟨Nat.zero_le _, Nat.zero_le _⟩ dX9_setLoad_9 (fun v I1 L1 H locs hR G => ?_)
    obtain ⟨hv, hI, hL⟩ := hR
    subst hv
    have G : GS E I L sg H locs := G.same hI hL
    refine W.eq (g2 := F0 mg 12 ls [.int (if TK4 what value then 1 else 0)]) rfl ?_
    refine s_if_ne_b (P := TK4 what value) (tgt := 18) S dX9_setLoad_12 (by decide) (fun c_2 => ?_) (fun c_2 => ?_)
    · exact absurd (And.intro c_1 c_2) ht
    · refine lv_ldc (v := (-2000000001 : Int32)) S.1 S.2.1 S.2.2.2.1 (S.2.2.2.2 _ (List.mem_of_getElem? (i := 1) rfl)) dX9_setLoad_15 ?_
      refine s_iret (x := (-2000000001 : Int32)) S G hr hlk dX9_setLoad_17 ?_
      exact ⟨rfl, rfl, rfl⟩
theorem no2 {P Q R : Prop} (h : ¬ (P ∧ Q)) (e : R → Q) (p : P) : ¬ R := fun r => h ⟨p, e r⟩
theorem out64 {x a b : Int32} {A B : Int64} (h : ¬ Int32.toInt64 x < A ∧ ¬ B < Int32.toInt64 x) (ha : A = Int32.toInt64 a) (hb : B = Int32.toInt64 b) : ¬ x < a ∧ ¬ b < x := by
  rw [ha, hb] at h
  exact (i64_in x a b).mp h
set_option maxHeartbeats 4000000 in
set_option maxRecDepth 100000 in
theorem k_X9_chop_no (l : Launch) (E : Ev) {I : SI} {L : SL} (load : Int32) (on : Int32) (ht : ¬ (IN1 load ∧ IN1 on)) : CS l yX9_chop wsX9_chop ({ frames := 2, cells := 0, slots := 0, locals := 45 }) E [.ref (E.2.2.2 161), .int load, .int on] I L (fun vv I' L' => vv = some (.int (-2000000001 : Int32)) ∧ I' = I ∧ L' = L) := by
  refine CS.of (cc := cX9_chop) (maxL := 4) (ret := (some .int)) (by decide) rfl (Nat.le_of_ble_eq_true rfl) ?_
  intro pg en sg mg below meth cg ls S hr hlk hX G hl
  have S : CallFix pg mg cg cX9_chop 4 sg _ wsX9_chop RX9 := S
  have hl : lv_has ls 4 [(0, .ref (E.2.2.2 161)), (1, .int load), (2, .int on)] := hl
  refine lv_iload_n S.1 S.2.1 dX9_chop_0 rfl (lv_at hl 1 rfl) ?_
  refine s_callS (As := [.int load]) (rest := []) S hX G (k_X9_isLoad l E load) (va_cwS (bytes := cX9_isLoad) (maxL := 1) (ret := (some .boolean)) 1 S.2.2.2.2 gX9_chop_X9_isLoad rfl rfl rfl (by decide +kernel) ⟨Nat.le_of_ble_eq_true rfl, Nat.le_of_ble_eq_true rfl⟩) rfl hl.1 rfl (Nat.le_of_ble_eq_true rfl) ⟨Nat.zero_le _, Nat.zero_le _⟩ dX9_chop_1 (fun v I1 L1 H locs hR G => ?_)
  obtain ⟨hv, hI, hL⟩ := hR
  subst hv
  have G : GS E I L sg H locs := G.same hI hL
  refine W.eq (g2 := F0 mg 4 ls [.int (if ¬ load < (0 : Int32) ∧ ¬ (1 : Int32) < load then 1 else 0)]) rfl ?_
  refine s_if_eq_b (P := ¬ load < (0 : Int32) ∧ ¬ (1 : Int32) < load) (tgt := 17) S dX9_chop_4 (by decide) (fun c_1 => ?_) (fun c_1 => ?_)
  · refine lv_ldc (v := (-2000000001 : Int32)) S.1 S.2.1 S.2.2.2.1 (S.2.2.2.2 _ (List.mem_of_getElem? (i := 1) rfl)) dX9_chop_17 ?_
    refine s_iret (x := (-2000000001 : Int32)) S G hr hlk dX9_chop_19 ?_
    exact ⟨rfl, rfl, rfl⟩
  · refine lv_iload_n S.1 S.2.1 dX9_chop_7 rfl (lv_at hl 2 rfl) ?_
    refine lv_i2l (v := (Int32.toInt64 on)) S.1 S.2.1 dX9_chop_8 rfl ?_
    refine lv_lconst (v := (0 : Int64)) S.1 S.2.1 dX9_chop_9 (by decide) ?_
    refine lv_lconst (v := (1 : Int64)) S.1 S.2.1 dX9_chop_10 (by decide) ?_
    refine s_callS (As := [.long (Int32.toInt64 on), .long (0 : Int64), .long (1 : Int64)]) (rest := []) S hX G (k_X9_in l E (Int32.toInt64 on) (0 : Int64) (1 : Int64)) (va_cwS (bytes := cX9_in) (maxL := 6) (ret := (some .boolean)) 3 S.2.2.2.2 gX9_chop_X9_in rfl rfl rfl (by decide +kernel) ⟨Nat.le_of_ble_eq_true rfl, Nat.le_of_ble_eq_true rfl⟩) rfl hl.1 rfl (Nat.le_of_ble_eq_true rfl) ⟨Nat.zero_le _, Nat.zero_le _⟩ dX9_chop_11 (fun v I1 L1 H locs hR G => ?_)
    obtain ⟨hv, hI, hL⟩ := hR
    subst hv
    have G : GS E I L sg H locs := G.same hI hL
    refine W.eq (g2 := F0 mg 14 ls [.int (if ¬ (Int32.toInt64 on) < (0 : Int64) ∧ ¬ (1 : Int64) < (Int32.toInt64 on) then 1 else 0)]) rfl ?_
    refine s_if_ne_b (P := ¬ (Int32.toInt64 on) < (0 : Int64) ∧ ¬ (1 : Int64) < (Int32.toInt64 on)) (tgt := 20) S dX9_chop_14 (by decide) (fun c_2 => ?_) (fun c_2 => ?_)
    · exact absurd (And.intro c_1 (out64 (a := 0) (b := 1) c_2 (by decide) (by decide))) ht
    · refine lv_ldc (v := (-2000000001 : Int32)) S.1 S.2.1 S.2.2.2.1 (S.2.2.2.2 _ (List.mem_of_getElem? (i := 1) rfl)) dX9_chop_17 ?_
      refine s_iret (x := (-2000000001 : Int32)) S G hr hlk dX9_chop_19 ?_
      exact ⟨rfl, rfl, rfl⟩
set_option maxHeartbeats 4000000 in
set_option maxRecDepth 100000 in
theorem k_X9_command_ok_0 (l : Launch) (E : Ev) {I : SI} {L : SL} (cm : Int32) (mx : Nat → Int32) (d : Nat → Int32) (wa : Nat → Int32) (lx : Nat → Int64) (lz : Nat → Int64) (kp : Nat) (e_mx : I (161) = mx) (e_d : I (162) = d) (e_wa : I (163) = wa) (e_lx : L (161) = lx) (e_lz : L (164) = lz) (hx : mx 2 = nI kp) (hkp : kp ≤ 4) (ht : IN2 cm) : CS l yX9_command wsX9_command ({ frames := 2, cells := 0, slots := 0, locals := 45 }) E [.ref (E.2.2.2 161), .int (0 : Int32), .int cm] I L (fun vv I' L' => vv = some (.int (d 8)) ∧ I' = (up (up (up I (161) (upd mx 2 (nI (recK kp)))) (162) (upd d 8 cm)) (163) (recW d wa kp)) ∧ L' = (upL L (164) (recS lz (lx 3) kp))) := by
  refine CS.of (cc := cX9_command) (maxL := 4) (ret := (some .int)) (by decide) rfl (Nat.le_of_ble_eq_true rfl) ?_
  intro pg en sg mg below meth cg ls S hr hlk hX G hl
  have S : CallFix pg mg cg cX9_command 4 sg _ wsX9_command RX9 := S
  have hl : lv_has ls 4 [(0, .ref (E.2.2.2 161)), (1, .int (0 : Int32)), (2, .int cm)] := hl
  refine lv_iload_n S.1 S.2.1 dX9_command_0 rfl (lv_at hl 1 rfl) ?_
  refine s_callS (As := [.int (0 : Int32)]) (rest := []) S hX G (k_X9_isLeg l E (0 : Int32)) (va_cwS (bytes := cX9_isLeg) (maxL := 1) (ret := (some .boolean)) 1 S.2.2.2.2 gX9_command_X9_isLeg rfl rfl rfl (by decide +kernel) ⟨Nat.le_of_ble_eq_true rfl, Nat.le_of_ble_eq_true rfl⟩) rfl hl.1 rfl (Nat.le_of_ble_eq_true rfl) ⟨Nat.zero_le _, Nat.zero_le _⟩ dX9_command_1 (fun v I1 L1 H locs hR G => ?_)
  obtain ⟨hv, hI, hL⟩ := hR
  subst hv
  have G : GS E I L sg H locs := G.same hI hL
  refine W.eq (g2 := F0 mg 4 ls [.int (if ¬ (0 : Int32) < (0 : Int32) ∧ ¬ (3 : Int32) < (0 : Int32) then 1 else 0)]) rfl ?_
  refine s_if_eq_b (P := ¬ (0 : Int32) < (0 : Int32) ∧ ¬ (3 : Int32) < (0 : Int32)) (tgt := 19) S dX9_command_4 (by decide) (fun h => absurd (by decide) h) (fun _ => ?_)
  refine lv_iload_n S.1 S.2.1 dX9_command_7 rfl (lv_at hl 2 rfl) ?_
  refine lv_i2l (v := (Int32.toInt64 cm)) S.1 S.2.1 dX9_command_8 rfl ?_
  refine lv_lconst (v := (0 : Int64)) S.1 S.2.1 dX9_command_9 (by decide) ?_
  refine lv_ldc2 (v := (2 : Int64)) S.1 S.2.1 S.2.2.2.1 (S.2.2.2.2 _ (List.mem_of_getElem? (i := 1) rfl)) dX9_command_10 ?_
  refine s_callS (As := [.long (Int32.toInt64 cm), .long (0 : Int64), .long (2 : Int64)]) (rest := []) S hX G (k_X9_in l E (Int32.toInt64 cm) (0 : Int64) (2 : Int64)) (va_cwS (bytes := cX9_in) (maxL := 6) (ret := (some .boolean)) 3 S.2.2.2.2 gX9_command_X9_in rfl rfl rfl (by decide +kernel) ⟨Nat.le_of_ble_eq_true rfl, Nat.le_of_ble_eq_true rfl⟩) rfl hl.1 rfl (Nat.le_of_ble_eq_true rfl) ⟨Nat.zero_le _, Nat.zero_le _⟩ dX9_command_13 (fun v I1 L1 H locs hR G => ?_)
  obtain ⟨hv, hI, hL⟩ := hR
  subst hv
  have G : GS E I L sg H locs := G.same hI hL
  refine W.eq (g2 := F0 mg 16 ls [.int (if ¬ (Int32.toInt64 cm) < (0 : Int64) ∧ ¬ (2 : Int64) < (Int32.toInt64 cm) then 1 else 0)]) rfl ?_
  refine s_if_ne_b (P := ¬ (Int32.toInt64 cm) < (0 : Int64) ∧ ¬ (2 : Int64) < (Int32.toInt64 cm)) (tgt := 22) S dX9_command_16 (by decide) (fun _ => ?_) (fun h => absurd (in64 (a := 0) (b := 2) ht (by decide) (by decide)) h)
  refine lv_aload_n S.1 S.2.1 dX9_command_22 rfl (lv_at hl 0 rfl) ?_
  refine s_callV (C := RX9) (As := []) (rest := []) (i := 161) (kd := 9) S hX G (k_X9_records l E mx d wa lx lz kp e_mx e_d e_wa e_lx e_lz hx hkp) (cwV (bytes := cX9_records) (maxL := 2) (ret := none) 0 S.2.2.2.2 gX9_command_X9_records rfl rfl rfl (by decide +kernel) ⟨Nat.le_of_ble_eq_true rfl, Nat.le_of_ble_eq_true rfl⟩) (rfl : sh 161 = 9) rfl rfl rfl (by decide) rfl hl.1 rfl (Nat.le_of_ble_eq_true rfl) ⟨Nat.zero_le _, Nat.zero_le _⟩ dX9_command_23 (fun v I1 L1 H locs hR G => ?_)
  obtain ⟨hv, hI, hL⟩ := hR
  subst hv
  obtain ⟨r_1, er_1⟩ : ∃ r : Nat → Int32, r = (upd mx 2 (nI (recK kp))) := ⟨_, rfl⟩
  rw [← er_1] at hI
  obtain ⟨r_2, er_2⟩ : ∃ r : Nat → Int32, r = (recW d wa kp) := ⟨_, rfl⟩
  rw [← er_2] at hI
  obtain ⟨r_3, er_3⟩ : ∃ r : Nat → Int64, r = (recS lz (lx 3) kp) := ⟨_, rfl⟩
  rw [← er_3] at hL
  have G : GS E (up (up I 161 r_1) 163 r_2) (upL L 164 r_3) sg H locs := G.same hI hL
  refine W.eq (g2 := F0 mg 26 ls []) rfl ?_
  refine lv_aload_n S.1 S.2.1 dX9_command_26 rfl (lv_at hl 0 rfl) ?_
  refine s_get S hX G (i := 161) (kd := 9) (a := r_1) (v := .ref (E.2.2.2 162)) (C := RX9) (T := TX9) (N := 13) 0 (rfl : sh 161 = 9) ((up_ne (by decide)).trans up_eq) rfl rfl (by decide) rfl (fun _ h => (List.mem_cons_of_mem _ (List.mem_append_right _ h))) (by decide) (List.mem_of_getElem? (i := 3) rfl) (fun _ h => h) dX9_command_27 ?_
  refine lv_iload_n S.1 S.2.1 dX9_command_30 rfl (lv_at hl 1 rfl) ?_
  refine s_callS (As := [.int (0 : Int32)]) (rest := [.ref (E.2.2.2 162)]) S hX G (k_X9_legAt_0 l E) (va_cwS (bytes := cX9_legAt) (maxL := 1) (ret := (some .int)) 1 S.2.2.2.2 gX9_command_X9_legAt rfl rfl rfl (by decide +kernel) ⟨Nat.le_of_ble_eq_true rfl, Nat.le_of_ble_eq_true rfl⟩) rfl hl.1 rfl (Nat.le_of_ble_eq_true rfl) ⟨Nat.zero_le _, Nat.zero_le _⟩ dX9_command_31 (fun v I1 L1 H locs hR G => ?_)
  obtain ⟨hv, hI, hL⟩ := hR
  subst hv
  have G : GS E (up (up I 161 r_1) 163 r_2) (upL L 164 r_3) sg H locs := G.same hI hL
  refine W.eq (g2 := F0 mg 34 ls [.int (8 : Int32), .ref (E.2.2.2 162)]) rfl ?_
  refine lv_iconst (v := (0 : Int32)) S.1 S.2.1 dX9_command_34 (by decide) ?_
  refine s_iadd (v := (8 : Int32)) S dX9_command_35 (by decide) ?_
  refine s_iald S hX G (i := 162) (kd := 284) (n := 270) (a := d) (x := (d 8)) (rfl : sh 162 = 284) ((up_ne (by decide)).trans ((up_ne (by decide)).trans e_d)) rfl (by decide) (by unfold vp_in; decide) (congrArg d (by decide)) dX9_command_36 ?_
  refine lv_istore_n (lv' := [(3, .int (d 8)), (0, .ref (E.2.2.2 161)), (1, .int (0 : Int32)), (2, .int cm)]) S.1 S.2.1 dX9_command_37 rfl hl (by decide) rfl (fun ls hl => ?_)
  refine lv_aload_n S.1 S.2.1 dX9_command_38 rfl (lv_at hl 1 rfl) ?_
  refine s_get S hX G (i := 161) (kd := 9) (a := r_1) (v := .ref (E.2.2.2 162)) (C := RX9) (T := TX9) (N := 13) 0 (rfl : sh 161 = 9) ((up_ne (by decide)).trans up_eq) rfl rfl (by decide) rfl (fun _ h => (List.mem_cons_of_mem _ (List.mem_append_right _ h))) (by decide) (List.mem_of_getElem? (i := 3) rfl) (fun _ h => h) dX9_command_39 ?_
  refine lv_iload_n S.1 S.2.1 dX9_command_42 rfl (lv_at hl 2 rfl) ?_
  refine s_callS (As := [.int (0 : Int32)]) (rest := [.ref (E.2.2.2 162)]) S hX G (k_X9_legAt_0 l E) (va_cwS (bytes := cX9_legAt) (maxL := 1) (ret := (some .int)) 1 S.2.2.2.2 gX9_command_X9_legAt rfl rfl rfl (by decide +kernel) ⟨Nat.le_of_ble_eq_true rfl, Nat.le_of_ble_eq_true rfl⟩) rfl hl.1 rfl (Nat.le_of_ble_eq_true rfl) ⟨Nat.zero_le _, Nat.zero_le _⟩ dX9_command_43 (fun v I1 L1 H locs hR G => ?_)
  obtain ⟨hv, hI, hL⟩ := hR
  subst hv
  have G : GS E (up (up I 161 r_1) 163 r_2) (upL L 164 r_3) sg H locs := G.same hI hL
  refine W.eq (g2 := F0 mg 46 ls [.int (8 : Int32), .ref (E.2.2.2 162)]) rfl ?_
  refine lv_iconst (v := (0 : Int32)) S.1 S.2.1 dX9_command_46 (by decide) ?_
  refine s_iadd (v := (8 : Int32)) S dX9_command_47 (by decide) ?_
  refine lv_iload_n S.1 S.2.1 dX9_command_48 rfl (lv_at hl 3 rfl) ?_
  refine s_iast S hX G (i := 162) (kd := 284) (n := 270) (jn := 8) (a := d) (I' := (up (up (up I 161 r_1) 163 r_2) 162 (upd d 8 cm))) (rfl : sh 162 = 284) ((up_ne (by decide)).trans ((up_ne (by decide)).trans e_d)) (fun _ => rfl) (by decide) (by unfold vp_in; decide) (by decide) rfl dX9_command_49 (fun H locs G => ?_)
  refine lv_iload_n S.1 S.2.1 dX9_command_50 rfl (lv_at hl 0 rfl) ?_
  refine s_iret (x := (d 8)) S G hr hlk dX9_command_51 ?_
  exact ⟨rfl, (st_eq3 (Eq.trans ((up_ne (by decide)).trans ((up_ne (by decide)).trans up_eq)) (show r_1 = (upd mx 2 (nI (recK kp))) by subst er_3 er_2 er_1; rfl)) up_eq (Eq.trans ((up_ne (by decide)).trans up_eq) (show r_2 = (recW d wa kp) by subst er_3 er_2 er_1; rfl)) (fun _ g0 g1 g2 => ((up_ne g1).trans ((up_ne g2).trans (up_ne g0))))), (lt_eq1 (Eq.trans upL_eq (show r_3 = (recS lz (lx 3) kp) by subst er_3 er_2 er_1; rfl)) (fun _ g0 => (upL_ne g0)))⟩
set_option maxHeartbeats 4000000 in
set_option maxRecDepth 100000 in
theorem k_X9_command_ok_1 (l : Launch) (E : Ev) {I : SI} {L : SL} (cm : Int32) (mx : Nat → Int32) (d : Nat → Int32) (wa : Nat → Int32) (lx : Nat → Int64) (lz : Nat → Int64) (kp : Nat) (e_mx : I (161) = mx) (e_d : I (162) = d) (e_wa : I (163) = wa) (e_lx : L (161) = lx) (e_lz : L (164) = lz) (hx : mx 2 = nI kp) (hkp : kp ≤ 4) (ht : IN2 cm) : CS l yX9_command wsX9_command ({ frames := 2, cells := 0, slots := 0, locals := 45 }) E [.ref (E.2.2.2 161), .int (1 : Int32), .int cm] I L (fun vv I' L' => vv = some (.int (d 16)) ∧ I' = (up (up (up I (161) (upd mx 2 (nI (recK kp)))) (162) (upd d 16 cm)) (163) (recW d wa kp)) ∧ L' = (upL L (164) (recS lz (lx 3) kp))) := by
  refine CS.of (cc := cX9_command) (maxL := 4) (ret := (some .int)) (by decide) rfl (Nat.le_of_ble_eq_true rfl) ?_
  intro pg en sg mg below meth cg ls S hr hlk hX G hl
  have S : CallFix pg mg cg cX9_command 4 sg _ wsX9_command RX9 := S
  have hl : lv_has ls 4 [(0, .ref (E.2.2.2 161)), (1, .int (1 : Int32)), (2, .int cm)] := hl
  refine lv_iload_n S.1 S.2.1 dX9_command_0 rfl (lv_at hl 1 rfl) ?_
  refine s_callS (As := [.int (1 : Int32)]) (rest := []) S hX G (k_X9_isLeg l E (1 : Int32)) (va_cwS (bytes := cX9_isLeg) (maxL := 1) (ret := (some .boolean)) 1 S.2.2.2.2 gX9_command_X9_isLeg rfl rfl rfl (by decide +kernel) ⟨Nat.le_of_ble_eq_true rfl, Nat.le_of_ble_eq_true rfl⟩) rfl hl.1 rfl (Nat.le_of_ble_eq_true rfl) ⟨Nat.zero_le _, Nat.zero_le _⟩ dX9_command_1 (fun v I1 L1 H locs hR G => ?_)
  obtain ⟨hv, hI, hL⟩ := hR
  subst hv
  have G : GS E I L sg H locs := G.same hI hL
  refine W.eq (g2 := F0 mg 4 ls [.int (if ¬ (1 : Int32) < (0 : Int32) ∧ ¬ (3 : Int32) < (1 : Int32) then 1 else 0)]) rfl ?_
  refine s_if_eq_b (P := ¬ (1 : Int32) < (0 : Int32) ∧ ¬ (3 : Int32) < (1 : Int32)) (tgt := 19) S dX9_command_4 (by decide) (fun h => absurd (by decide) h) (fun _ => ?_)
  refine lv_iload_n S.1 S.2.1 dX9_command_7 rfl (lv_at hl 2 rfl) ?_
  refine lv_i2l (v := (Int32.toInt64 cm)) S.1 S.2.1 dX9_command_8 rfl ?_
  refine lv_lconst (v := (0 : Int64)) S.1 S.2.1 dX9_command_9 (by decide) ?_
  refine lv_ldc2 (v := (2 : Int64)) S.1 S.2.1 S.2.2.2.1 (S.2.2.2.2 _ (List.mem_of_getElem? (i := 1) rfl)) dX9_command_10 ?_
  refine s_callS (As := [.long (Int32.toInt64 cm), .long (0 : Int64), .long (2 : Int64)]) (rest := []) S hX G (k_X9_in l E (Int32.toInt64 cm) (0 : Int64) (2 : Int64)) (va_cwS (bytes := cX9_in) (maxL := 6) (ret := (some .boolean)) 3 S.2.2.2.2 gX9_command_X9_in rfl rfl rfl (by decide +kernel) ⟨Nat.le_of_ble_eq_true rfl, Nat.le_of_ble_eq_true rfl⟩) rfl hl.1 rfl (Nat.le_of_ble_eq_true rfl) ⟨Nat.zero_le _, Nat.zero_le _⟩ dX9_command_13 (fun v I1 L1 H locs hR G => ?_)
  obtain ⟨hv, hI, hL⟩ := hR
  subst hv
  have G : GS E I L sg H locs := G.same hI hL
  refine W.eq (g2 := F0 mg 16 ls [.int (if ¬ (Int32.toInt64 cm) < (0 : Int64) ∧ ¬ (2 : Int64) < (Int32.toInt64 cm) then 1 else 0)]) rfl ?_
  refine s_if_ne_b (P := ¬ (Int32.toInt64 cm) < (0 : Int64) ∧ ¬ (2 : Int64) < (Int32.toInt64 cm)) (tgt := 22) S dX9_command_16 (by decide) (fun _ => ?_) (fun h => absurd (in64 (a := 0) (b := 2) ht (by decide) (by decide)) h)
  refine lv_aload_n S.1 S.2.1 dX9_command_22 rfl (lv_at hl 0 rfl) ?_
  refine s_callV (C := RX9) (As := []) (rest := []) (i := 161) (kd := 9) S hX G (k_X9_records l E mx d wa lx lz kp e_mx e_d e_wa e_lx e_lz hx hkp) (cwV (bytes := cX9_records) (maxL := 2) (ret := none) 0 S.2.2.2.2 gX9_command_X9_records rfl rfl rfl (by decide +kernel) ⟨Nat.le_of_ble_eq_true rfl, Nat.le_of_ble_eq_true rfl⟩) (rfl : sh 161 = 9) rfl rfl rfl (by decide) rfl hl.1 rfl (Nat.le_of_ble_eq_true rfl) ⟨Nat.zero_le _, Nat.zero_le _⟩ dX9_command_23 (fun v I1 L1 H locs hR G => ?_)
  obtain ⟨hv, hI, hL⟩ := hR
  subst hv
  obtain ⟨r_1, er_1⟩ : ∃ r : Nat → Int32, r = (upd mx 2 (nI (recK kp))) := ⟨_, rfl⟩
  rw [← er_1] at hI
  obtain ⟨r_2, er_2⟩ : ∃ r : Nat → Int32, r = (recW d wa kp) := ⟨_, rfl⟩
  rw [← er_2] at hI
  obtain ⟨r_3, er_3⟩ : ∃ r : Nat → Int64, r = (recS lz (lx 3) kp) := ⟨_, rfl⟩
  rw [← er_3] at hL
  have G : GS E (up (up I 161 r_1) 163 r_2) (upL L 164 r_3) sg H locs := G.same hI hL
  refine W.eq (g2 := F0 mg 26 ls []) rfl ?_
  refine lv_aload_n S.1 S.2.1 dX9_command_26 rfl (lv_at hl 0 rfl) ?_
  refine s_get S hX G (i := 161) (kd := 9) (a := r_1) (v := .ref (E.2.2.2 162)) (C := RX9) (T := TX9) (N := 13) 0 (rfl : sh 161 = 9) ((up_ne (by decide)).trans up_eq) rfl rfl (by decide) rfl (fun _ h => (List.mem_cons_of_mem _ (List.mem_append_right _ h))) (by decide) (List.mem_of_getElem? (i := 3) rfl) (fun _ h => h) dX9_command_27 ?_
  refine lv_iload_n S.1 S.2.1 dX9_command_30 rfl (lv_at hl 1 rfl) ?_
  refine s_callS (As := [.int (1 : Int32)]) (rest := [.ref (E.2.2.2 162)]) S hX G (k_X9_legAt_1 l E) (va_cwS (bytes := cX9_legAt) (maxL := 1) (ret := (some .int)) 1 S.2.2.2.2 gX9_command_X9_legAt rfl rfl rfl (by decide +kernel) ⟨Nat.le_of_ble_eq_true rfl, Nat.le_of_ble_eq_true rfl⟩) rfl hl.1 rfl (Nat.le_of_ble_eq_true rfl) ⟨Nat.zero_le _, Nat.zero_le _⟩ dX9_command_31 (fun v I1 L1 H locs hR G => ?_)
  obtain ⟨hv, hI, hL⟩ := hR
  subst hv
  have G : GS E (up (up I 161 r_1) 163 r_2) (upL L 164 r_3) sg H locs := G.same hI hL
  refine W.eq (g2 := F0 mg 34 ls [.int (16 : Int32), .ref (E.2.2.2 162)]) rfl ?_
  refine lv_iconst (v := (0 : Int32)) S.1 S.2.1 dX9_command_34 (by decide) ?_
  refine s_iadd (v := (16 : Int32)) S dX9_command_35 (by decide) ?_
  refine s_iald S hX G (i := 162) (kd := 284) (n := 270) (a := d) (x := (d 16)) (rfl : sh 162 = 284) ((up_ne (by decide)).trans ((up_ne (by decide)).trans e_d)) rfl (by decide) (by unfold vp_in; decide) (congrArg d (by decide)) dX9_command_36 ?_
  refine lv_istore_n (lv' := [(3, .int (d 16)), (0, .ref (E.2.2.2 161)), (1, .int (1 : Int32)), (2, .int cm)]) S.1 S.2.1 dX9_command_37 rfl hl (by decide) rfl (fun ls hl => ?_)
  refine lv_aload_n S.1 S.2.1 dX9_command_38 rfl (lv_at hl 1 rfl) ?_
  refine s_get S hX G (i := 161) (kd := 9) (a := r_1) (v := .ref (E.2.2.2 162)) (C := RX9) (T := TX9) (N := 13) 0 (rfl : sh 161 = 9) ((up_ne (by decide)).trans up_eq) rfl rfl (by decide) rfl (fun _ h => (List.mem_cons_of_mem _ (List.mem_append_right _ h))) (by decide) (List.mem_of_getElem? (i := 3) rfl) (fun _ h => h) dX9_command_39 ?_
  refine lv_iload_n S.1 S.2.1 dX9_command_42 rfl (lv_at hl 2 rfl) ?_
  refine s_callS (As := [.int (1 : Int32)]) (rest := [.ref (E.2.2.2 162)]) S hX G (k_X9_legAt_1 l E) (va_cwS (bytes := cX9_legAt) (maxL := 1) (ret := (some .int)) 1 S.2.2.2.2 gX9_command_X9_legAt rfl rfl rfl (by decide +kernel) ⟨Nat.le_of_ble_eq_true rfl, Nat.le_of_ble_eq_true rfl⟩) rfl hl.1 rfl (Nat.le_of_ble_eq_true rfl) ⟨Nat.zero_le _, Nat.zero_le _⟩ dX9_command_43 (fun v I1 L1 H locs hR G => ?_)
  obtain ⟨hv, hI, hL⟩ := hR
  subst hv
  have G : GS E (up (up I 161 r_1) 163 r_2) (upL L 164 r_3) sg H locs := G.same hI hL
  refine W.eq (g2 := F0 mg 46 ls [.int (16 : Int32), .ref (E.2.2.2 162)]) rfl ?_
  refine lv_iconst (v := (0 : Int32)) S.1 S.2.1 dX9_command_46 (by decide) ?_
  refine s_iadd (v := (16 : Int32)) S dX9_command_47 (by decide) ?_
  refine lv_iload_n S.1 S.2.1 dX9_command_48 rfl (lv_at hl 3 rfl) ?_
  refine s_iast S hX G (i := 162) (kd := 284) (n := 270) (jn := 16) (a := d) (I' := (up (up (up I 161 r_1) 163 r_2) 162 (upd d 16 cm))) (rfl : sh 162 = 284) ((up_ne (by decide)).trans ((up_ne (by decide)).trans e_d)) (fun _ => rfl) (by decide) (by unfold vp_in; decide) (by decide) rfl dX9_command_49 (fun H locs G => ?_)
  refine lv_iload_n S.1 S.2.1 dX9_command_50 rfl (lv_at hl 0 rfl) ?_
  refine s_iret (x := (d 16)) S G hr hlk dX9_command_51 ?_
  exact ⟨rfl, (st_eq3 (Eq.trans ((up_ne (by decide)).trans ((up_ne (by decide)).trans up_eq)) (show r_1 = (upd mx 2 (nI (recK kp))) by subst er_3 er_2 er_1; rfl)) up_eq (Eq.trans ((up_ne (by decide)).trans up_eq) (show r_2 = (recW d wa kp) by subst er_3 er_2 er_1; rfl)) (fun _ g0 g1 g2 => ((up_ne g1).trans ((up_ne g2).trans (up_ne g0))))), (lt_eq1 (Eq.trans upL_eq (show r_3 = (recS lz (lx 3) kp) by subst er_3 er_2 er_1; rfl)) (fun _ g0 => (upL_ne g0)))⟩
set_option maxHeartbeats 4000000 in
set_option maxRecDepth 100000 in
theorem k_X9_command_ok_2 (l : Launch) (E : Ev) {I : SI} {L : SL} (cm : Int32) (mx : Nat → Int32) (d : Nat → Int32) (wa : Nat → Int32) (lx : Nat → Int64) (lz : Nat → Int64) (kp : Nat) (e_mx : I (161) = mx) (e_d : I (162) = d) (e_wa : I (163) = wa) (e_lx : L (161) = lx) (e_lz : L (164) = lz) (hx : mx 2 = nI kp) (hkp : kp ≤ 4) (ht : IN2 cm) : CS l yX9_command wsX9_command ({ frames := 2, cells := 0, slots := 0, locals := 45 }) E [.ref (E.2.2.2 161), .int (2 : Int32), .int cm] I L (fun vv I' L' => vv = some (.int (d 24)) ∧ I' = (up (up (up I (161) (upd mx 2 (nI (recK kp)))) (162) (upd d 24 cm)) (163) (recW d wa kp)) ∧ L' = (upL L (164) (recS lz (lx 3) kp))) := by
  refine CS.of (cc := cX9_command) (maxL := 4) (ret := (some .int)) (by decide) rfl (Nat.le_of_ble_eq_true rfl) ?_
  intro pg en sg mg below meth cg ls S hr hlk hX G hl
  have S : CallFix pg mg cg cX9_command 4 sg _ wsX9_command RX9 := S
  have hl : lv_has ls 4 [(0, .ref (E.2.2.2 161)), (1, .int (2 : Int32)), (2, .int cm)] := hl
  refine lv_iload_n S.1 S.2.1 dX9_command_0 rfl (lv_at hl 1 rfl) ?_
  refine s_callS (As := [.int (2 : Int32)]) (rest := []) S hX G (k_X9_isLeg l E (2 : Int32)) (va_cwS (bytes := cX9_isLeg) (maxL := 1) (ret := (some .boolean)) 1 S.2.2.2.2 gX9_command_X9_isLeg rfl rfl rfl (by decide +kernel) ⟨Nat.le_of_ble_eq_true rfl, Nat.le_of_ble_eq_true rfl⟩) rfl hl.1 rfl (Nat.le_of_ble_eq_true rfl) ⟨Nat.zero_le _, Nat.zero_le _⟩ dX9_command_1 (fun v I1 L1 H locs hR G => ?_)
  obtain ⟨hv, hI, hL⟩ := hR
  subst hv
  have G : GS E I L sg H locs := G.same hI hL
  refine W.eq (g2 := F0 mg 4 ls [.int (if ¬ (2 : Int32) < (0 : Int32) ∧ ¬ (3 : Int32) < (2 : Int32) then 1 else 0)]) rfl ?_
  refine s_if_eq_b (P := ¬ (2 : Int32) < (0 : Int32) ∧ ¬ (3 : Int32) < (2 : Int32)) (tgt := 19) S dX9_command_4 (by decide) (fun h => absurd (by decide) h) (fun _ => ?_)
  refine lv_iload_n S.1 S.2.1 dX9_command_7 rfl (lv_at hl 2 rfl) ?_
  refine lv_i2l (v := (Int32.toInt64 cm)) S.1 S.2.1 dX9_command_8 rfl ?_
  refine lv_lconst (v := (0 : Int64)) S.1 S.2.1 dX9_command_9 (by decide) ?_
  refine lv_ldc2 (v := (2 : Int64)) S.1 S.2.1 S.2.2.2.1 (S.2.2.2.2 _ (List.mem_of_getElem? (i := 1) rfl)) dX9_command_10 ?_
  refine s_callS (As := [.long (Int32.toInt64 cm), .long (0 : Int64), .long (2 : Int64)]) (rest := []) S hX G (k_X9_in l E (Int32.toInt64 cm) (0 : Int64) (2 : Int64)) (va_cwS (bytes := cX9_in) (maxL := 6) (ret := (some .boolean)) 3 S.2.2.2.2 gX9_command_X9_in rfl rfl rfl (by decide +kernel) ⟨Nat.le_of_ble_eq_true rfl, Nat.le_of_ble_eq_true rfl⟩) rfl hl.1 rfl (Nat.le_of_ble_eq_true rfl) ⟨Nat.zero_le _, Nat.zero_le _⟩ dX9_command_13 (fun v I1 L1 H locs hR G => ?_)
  obtain ⟨hv, hI, hL⟩ := hR
  subst hv
  have G : GS E I L sg H locs := G.same hI hL
  refine W.eq (g2 := F0 mg 16 ls [.int (if ¬ (Int32.toInt64 cm) < (0 : Int64) ∧ ¬ (2 : Int64) < (Int32.toInt64 cm) then 1 else 0)]) rfl ?_
  refine s_if_ne_b (P := ¬ (Int32.toInt64 cm) < (0 : Int64) ∧ ¬ (2 : Int64) < (Int32.toInt64 cm)) (tgt := 22) S dX9_command_16 (by decide) (fun _ => ?_) (fun h => absurd (in64 (a := 0) (b := 2) ht (by decide) (by decide)) h)
  refine lv_aload_n S.1 S.2.1 dX9_command_22 rfl (lv_at hl 0 rfl) ?_
  refine s_callV (C := RX9) (As := []) (rest := []) (i := 161) (kd := 9) S hX G (k_X9_records l E mx d wa lx lz kp e_mx e_d e_wa e_lx e_lz hx hkp) (cwV (bytes := cX9_records) (maxL := 2) (ret := none) 0 S.2.2.2.2 gX9_command_X9_records rfl rfl rfl (by decide +kernel) ⟨Nat.le_of_ble_eq_true rfl, Nat.le_of_ble_eq_true rfl⟩) (rfl : sh 161 = 9) rfl rfl rfl (by decide) rfl hl.1 rfl (Nat.le_of_ble_eq_true rfl) ⟨Nat.zero_le _, Nat.zero_le _⟩ dX9_command_23 (fun v I1 L1 H locs hR G => ?_)
  obtain ⟨hv, hI, hL⟩ := hR
  subst hv
  obtain ⟨r_1, er_1⟩ : ∃ r : Nat → Int32, r = (upd mx 2 (nI (recK kp))) := ⟨_, rfl⟩
  rw [← er_1] at hI
  obtain ⟨r_2, er_2⟩ : ∃ r : Nat → Int32, r = (recW d wa kp) := ⟨_, rfl⟩
  rw [← er_2] at hI
  obtain ⟨r_3, er_3⟩ : ∃ r : Nat → Int64, r = (recS lz (lx 3) kp) := ⟨_, rfl⟩
  rw [← er_3] at hL
  have G : GS E (up (up I 161 r_1) 163 r_2) (upL L 164 r_3) sg H locs := G.same hI hL
  refine W.eq (g2 := F0 mg 26 ls []) rfl ?_
  refine lv_aload_n S.1 S.2.1 dX9_command_26 rfl (lv_at hl 0 rfl) ?_
  refine s_get S hX G (i := 161) (kd := 9) (a := r_1) (v := .ref (E.2.2.2 162)) (C := RX9) (T := TX9) (N := 13) 0 (rfl : sh 161 = 9) ((up_ne (by decide)).trans up_eq) rfl rfl (by decide) rfl (fun _ h => (List.mem_cons_of_mem _ (List.mem_append_right _ h))) (by decide) (List.mem_of_getElem? (i := 3) rfl) (fun _ h => h) dX9_command_27 ?_
  refine lv_iload_n S.1 S.2.1 dX9_command_30 rfl (lv_at hl 1 rfl) ?_
  refine s_callS (As := [.int (2 : Int32)]) (rest := [.ref (E.2.2.2 162)]) S hX G (k_X9_legAt_2 l E) (va_cwS (bytes := cX9_legAt) (maxL := 1) (ret := (some .int)) 1 S.2.2.2.2 gX9_command_X9_legAt rfl rfl rfl (by decide +kernel) ⟨Nat.le_of_ble_eq_true rfl, Nat.le_of_ble_eq_true rfl⟩) rfl hl.1 rfl (Nat.le_of_ble_eq_true rfl) ⟨Nat.zero_le _, Nat.zero_le _⟩ dX9_command_31 (fun v I1 L1 H locs hR G => ?_)
  obtain ⟨hv, hI, hL⟩ := hR
  subst hv
  have G : GS E (up (up I 161 r_1) 163 r_2) (upL L 164 r_3) sg H locs := G.same hI hL
  refine W.eq (g2 := F0 mg 34 ls [.int (24 : Int32), .ref (E.2.2.2 162)]) rfl ?_
  refine lv_iconst (v := (0 : Int32)) S.1 S.2.1 dX9_command_34 (by decide) ?_
  refine s_iadd (v := (24 : Int32)) S dX9_command_35 (by decide) ?_
  refine s_iald S hX G (i := 162) (kd := 284) (n := 270) (a := d) (x := (d 24)) (rfl : sh 162 = 284) ((up_ne (by decide)).trans ((up_ne (by decide)).trans e_d)) rfl (by decide) (by unfold vp_in; decide) (congrArg d (by decide)) dX9_command_36 ?_
  refine lv_istore_n (lv' := [(3, .int (d 24)), (0, .ref (E.2.2.2 161)), (1, .int (2 : Int32)), (2, .int cm)]) S.1 S.2.1 dX9_command_37 rfl hl (by decide) rfl (fun ls hl => ?_)
  refine lv_aload_n S.1 S.2.1 dX9_command_38 rfl (lv_at hl 1 rfl) ?_
  refine s_get S hX G (i := 161) (kd := 9) (a := r_1) (v := .ref (E.2.2.2 162)) (C := RX9) (T := TX9) (N := 13) 0 (rfl : sh 161 = 9) ((up_ne (by decide)).trans up_eq) rfl rfl (by decide) rfl (fun _ h => (List.mem_cons_of_mem _ (List.mem_append_right _ h))) (by decide) (List.mem_of_getElem? (i := 3) rfl) (fun _ h => h) dX9_command_39 ?_
  refine lv_iload_n S.1 S.2.1 dX9_command_42 rfl (lv_at hl 2 rfl) ?_
  refine s_callS (As := [.int (2 : Int32)]) (rest := [.ref (E.2.2.2 162)]) S hX G (k_X9_legAt_2 l E) (va_cwS (bytes := cX9_legAt) (maxL := 1) (ret := (some .int)) 1 S.2.2.2.2 gX9_command_X9_legAt rfl rfl rfl (by decide +kernel) ⟨Nat.le_of_ble_eq_true rfl, Nat.le_of_ble_eq_true rfl⟩) rfl hl.1 rfl (Nat.le_of_ble_eq_true rfl) ⟨Nat.zero_le _, Nat.zero_le _⟩ dX9_command_43 (fun v I1 L1 H locs hR G => ?_)
  obtain ⟨hv, hI, hL⟩ := hR
  subst hv
  have G : GS E (up (up I 161 r_1) 163 r_2) (upL L 164 r_3) sg H locs := G.same hI hL
  refine W.eq (g2 := F0 mg 46 ls [.int (24 : Int32), .ref (E.2.2.2 162)]) rfl ?_
  refine lv_iconst (v := (0 : Int32)) S.1 S.2.1 dX9_command_46 (by decide) ?_
  refine s_iadd (v := (24 : Int32)) S dX9_command_47 (by decide) ?_
  refine lv_iload_n S.1 S.2.1 dX9_command_48 rfl (lv_at hl 3 rfl) ?_
  refine s_iast S hX G (i := 162) (kd := 284) (n := 270) (jn := 24) (a := d) (I' := (up (up (up I 161 r_1) 163 r_2) 162 (upd d 24 cm))) (rfl : sh 162 = 284) ((up_ne (by decide)).trans ((up_ne (by decide)).trans e_d)) (fun _ => rfl) (by decide) (by unfold vp_in; decide) (by decide) rfl dX9_command_49 (fun H locs G => ?_)
  refine lv_iload_n S.1 S.2.1 dX9_command_50 rfl (lv_at hl 0 rfl) ?_
  refine s_iret (x := (d 24)) S G hr hlk dX9_command_51 ?_
  exact ⟨rfl, (st_eq3 (Eq.trans ((up_ne (by decide)).trans ((up_ne (by decide)).trans up_eq)) (show r_1 = (upd mx 2 (nI (recK kp))) by subst er_3 er_2 er_1; rfl)) up_eq (Eq.trans ((up_ne (by decide)).trans up_eq) (show r_2 = (recW d wa kp) by subst er_3 er_2 er_1; rfl)) (fun _ g0 g1 g2 => ((up_ne g1).trans ((up_ne g2).trans (up_ne g0))))), (lt_eq1 (Eq.trans upL_eq (show r_3 = (recS lz (lx 3) kp) by subst er_3 er_2 er_1; rfl)) (fun _ g0 => (upL_ne g0)))⟩
set_option maxHeartbeats 4000000 in
set_option maxRecDepth 100000 in
theorem k_X9_command_ok_3 (l : Launch) (E : Ev) {I : SI} {L : SL} (cm : Int32) (mx : Nat → Int32) (d : Nat → Int32) (wa : Nat → Int32) (lx : Nat → Int64) (lz : Nat → Int64) (kp : Nat) (e_mx : I (161) = mx) (e_d : I (162) = d) (e_wa : I (163) = wa) (e_lx : L (161) = lx) (e_lz : L (164) = lz) (hx : mx 2 = nI kp) (hkp : kp ≤ 4) (ht : IN2 cm) : CS l yX9_command wsX9_command ({ frames := 2, cells := 0, slots := 0, locals := 45 }) E [.ref (E.2.2.2 161), .int (3 : Int32), .int cm] I L (fun vv I' L' => vv = some (.int (d 32)) ∧ I' = (up (up (up I (161) (upd mx 2 (nI (recK kp)))) (162) (upd d 32 cm)) (163) (recW d wa kp)) ∧ L' = (upL L (164) (recS lz (lx 3) kp))) := by
  refine CS.of (cc := cX9_command) (maxL := 4) (ret := (some .int)) (by decide) rfl (Nat.le_of_ble_eq_true rfl) ?_
  intro pg en sg mg below meth cg ls S hr hlk hX G hl
  have S : CallFix pg mg cg cX9_command 4 sg _ wsX9_command RX9 := S
  have hl : lv_has ls 4 [(0, .ref (E.2.2.2 161)), (1, .int (3 : Int32)), (2, .int cm)] := hl
  refine lv_iload_n S.1 S.2.1 dX9_command_0 rfl (lv_at hl 1 rfl) ?_
  refine s_callS (As := [.int (3 : Int32)]) (rest := []) S hX G (k_X9_isLeg l E (3 : Int32)) (va_cwS (bytes := cX9_isLeg) (maxL := 1) (ret := (some .boolean)) 1 S.2.2.2.2 gX9_command_X9_isLeg rfl rfl rfl (by decide +kernel) ⟨Nat.le_of_ble_eq_true rfl, Nat.le_of_ble_eq_true rfl⟩) rfl hl.1 rfl (Nat.le_of_ble_eq_true rfl) ⟨Nat.zero_le _, Nat.zero_le _⟩ dX9_command_1 (fun v I1 L1 H locs hR G => ?_)
  obtain ⟨hv, hI, hL⟩ := hR
  subst hv
  have G : GS E I L sg H locs := G.same hI hL
  refine W.eq (g2 := F0 mg 4 ls [.int (if ¬ (3 : Int32) < (0 : Int32) ∧ ¬ (3 : Int32) < (3 : Int32) then 1 else 0)]) rfl ?_
  refine s_if_eq_b (P := ¬ (3 : Int32) < (0 : Int32) ∧ ¬ (3 : Int32) < (3 : Int32)) (tgt := 19) S dX9_command_4 (by decide) (fun h => absurd (by decide) h) (fun _ => ?_)
  refine lv_iload_n S.1 S.2.1 dX9_command_7 rfl (lv_at hl 2 rfl) ?_
  refine lv_i2l (v := (Int32.toInt64 cm)) S.1 S.2.1 dX9_command_8 rfl ?_
  refine lv_lconst (v := (0 : Int64)) S.1 S.2.1 dX9_command_9 (by decide) ?_
  refine lv_ldc2 (v := (2 : Int64)) S.1 S.2.1 S.2.2.2.1 (S.2.2.2.2 _ (List.mem_of_getElem? (i := 1) rfl)) dX9_command_10 ?_
  refine s_callS (As := [.long (Int32.toInt64 cm), .long (0 : Int64), .long (2 : Int64)]) (rest := []) S hX G (k_X9_in l E (Int32.toInt64 cm) (0 : Int64) (2 : Int64)) (va_cwS (bytes := cX9_in) (maxL := 6) (ret := (some .boolean)) 3 S.2.2.2.2 gX9_command_X9_in rfl rfl rfl (by decide +kernel) ⟨Nat.le_of_ble_eq_true rfl, Nat.le_of_ble_eq_true rfl⟩) rfl hl.1 rfl (Nat.le_of_ble_eq_true rfl) ⟨Nat.zero_le _, Nat.zero_le _⟩ dX9_command_13 (fun v I1 L1 H locs hR G => ?_)
  obtain ⟨hv, hI, hL⟩ := hR
  subst hv
  have G : GS E I L sg H locs := G.same hI hL
  refine W.eq (g2 := F0 mg 16 ls [.int (if ¬ (Int32.toInt64 cm) < (0 : Int64) ∧ ¬ (2 : Int64) < (Int32.toInt64 cm) then 1 else 0)]) rfl ?_
  refine s_if_ne_b (P := ¬ (Int32.toInt64 cm) < (0 : Int64) ∧ ¬ (2 : Int64) < (Int32.toInt64 cm)) (tgt := 22) S dX9_command_16 (by decide) (fun _ => ?_) (fun h => absurd (in64 (a := 0) (b := 2) ht (by decide) (by decide)) h)
  refine lv_aload_n S.1 S.2.1 dX9_command_22 rfl (lv_at hl 0 rfl) ?_
  refine s_callV (C := RX9) (As := []) (rest := []) (i := 161) (kd := 9) S hX G (k_X9_records l E mx d wa lx lz kp e_mx e_d e_wa e_lx e_lz hx hkp) (cwV (bytes := cX9_records) (maxL := 2) (ret := none) 0 S.2.2.2.2 gX9_command_X9_records rfl rfl rfl (by decide +kernel) ⟨Nat.le_of_ble_eq_true rfl, Nat.le_of_ble_eq_true rfl⟩) (rfl : sh 161 = 9) rfl rfl rfl (by decide) rfl hl.1 rfl (Nat.le_of_ble_eq_true rfl) ⟨Nat.zero_le _, Nat.zero_le _⟩ dX9_command_23 (fun v I1 L1 H locs hR G => ?_)
  obtain ⟨hv, hI, hL⟩ := hR
  subst hv
  obtain ⟨r_1, er_1⟩ : ∃ r : Nat → Int32, r = (upd mx 2 (nI (recK kp))) := ⟨_, rfl⟩
  rw [← er_1] at hI
  obtain ⟨r_2, er_2⟩ : ∃ r : Nat → Int32, r = (recW d wa kp) := ⟨_, rfl⟩
  rw [← er_2] at hI
  obtain ⟨r_3, er_3⟩ : ∃ r : Nat → Int64, r = (recS lz (lx 3) kp) := ⟨_, rfl⟩
  rw [← er_3] at hL
  have G : GS E (up (up I 161 r_1) 163 r_2) (upL L 164 r_3) sg H locs := G.same hI hL
  refine W.eq (g2 := F0 mg 26 ls []) rfl ?_
  refine lv_aload_n S.1 S.2.1 dX9_command_26 rfl (lv_at hl 0 rfl) ?_
  refine s_get S hX G (i := 161) (kd := 9) (a := r_1) (v := .ref (E.2.2.2 162)) (C := RX9) (T := TX9) (N := 13) 0 (rfl : sh 161 = 9) ((up_ne (by decide)).trans up_eq) rfl rfl (by decide) rfl (fun _ h => (List.mem_cons_of_mem _ (List.mem_append_right _ h))) (by decide) (List.mem_of_getElem? (i := 3) rfl) (fun _ h => h) dX9_command_27 ?_
  refine lv_iload_n S.1 S.2.1 dX9_command_30 rfl (lv_at hl 1 rfl) ?_
  refine s_callS (As := [.int (3 : Int32)]) (rest := [.ref (E.2.2.2 162)]) S hX G (k_X9_legAt_3 l E) (va_cwS (bytes := cX9_legAt) (maxL := 1) (ret := (some .int)) 1 S.2.2.2.2 gX9_command_X9_legAt rfl rfl rfl (by decide +kernel) ⟨Nat.le_of_ble_eq_true rfl, Nat.le_of_ble_eq_true rfl⟩) rfl hl.1 rfl (Nat.le_of_ble_eq_true rfl) ⟨Nat.zero_le _, Nat.zero_le _⟩ dX9_command_31 (fun v I1 L1 H locs hR G => ?_)
  obtain ⟨hv, hI, hL⟩ := hR
  subst hv
  have G : GS E (up (up I 161 r_1) 163 r_2) (upL L 164 r_3) sg H locs := G.same hI hL
  refine W.eq (g2 := F0 mg 34 ls [.int (32 : Int32), .ref (E.2.2.2 162)]) rfl ?_
  refine lv_iconst (v := (0 : Int32)) S.1 S.2.1 dX9_command_34 (by decide) ?_
  refine s_iadd (v := (32 : Int32)) S dX9_command_35 (by decide) ?_
  refine s_iald S hX G (i := 162) (kd := 284) (n := 270) (a := d) (x := (d 32)) (rfl : sh 162 = 284) ((up_ne (by decide)).trans ((up_ne (by decide)).trans e_d)) rfl (by decide) (by unfold vp_in; decide) (congrArg d (by decide)) dX9_command_36 ?_
  refine lv_istore_n (lv' := [(3, .int (d 32)), (0, .ref (E.2.2.2 161)), (1, .int (3 : Int32)), (2, .int cm)]) S.1 S.2.1 dX9_command_37 rfl hl (by decide) rfl (fun ls hl => ?_)
  refine lv_aload_n S.1 S.2.1 dX9_command_38 rfl (lv_at hl 1 rfl) ?_
  refine s_get S hX G (i := 161) (kd := 9) (a := r_1) (v := .ref (E.2.2.2 162)) (C := RX9) (T := TX9) (N := 13) 0 (rfl : sh 161 = 9) ((up_ne (by decide)).trans up_eq) rfl rfl (by decide) rfl (fun _ h => (List.mem_cons_of_mem _ (List.mem_append_right _ h))) (by decide) (List.mem_of_getElem? (i := 3) rfl) (fun _ h => h) dX9_command_39 ?_
  refine lv_iload_n S.1 S.2.1 dX9_command_42 rfl (lv_at hl 2 rfl) ?_
  refine s_callS (As := [.int (3 : Int32)]) (rest := [.ref (E.2.2.2 162)]) S hX G (k_X9_legAt_3 l E) (va_cwS (bytes := cX9_legAt) (maxL := 1) (ret := (some .int)) 1 S.2.2.2.2 gX9_command_X9_legAt rfl rfl rfl (by decide +kernel) ⟨Nat.le_of_ble_eq_true rfl, Nat.le_of_ble_eq_true rfl⟩) rfl hl.1 rfl (Nat.le_of_ble_eq_true rfl) ⟨Nat.zero_le _, Nat.zero_le _⟩ dX9_command_43 (fun v I1 L1 H locs hR G => ?_)
  obtain ⟨hv, hI, hL⟩ := hR
  subst hv
  have G : GS E (up (up I 161 r_1) 163 r_2) (upL L 164 r_3) sg H locs := G.same hI hL
  refine W.eq (g2 := F0 mg 46 ls [.int (32 : Int32), .ref (E.2.2.2 162)]) rfl ?_
  refine lv_iconst (v := (0 : Int32)) S.1 S.2.1 dX9_command_46 (by decide) ?_
  refine s_iadd (v := (32 : Int32)) S dX9_command_47 (by decide) ?_
  refine lv_iload_n S.1 S.2.1 dX9_command_48 rfl (lv_at hl 3 rfl) ?_
  refine s_iast S hX G (i := 162) (kd := 284) (n := 270) (jn := 32) (a := d) (I' := (up (up (up I 161 r_1) 163 r_2) 162 (upd d 32 cm))) (rfl : sh 162 = 284) ((up_ne (by decide)).trans ((up_ne (by decide)).trans e_d)) (fun _ => rfl) (by decide) (by unfold vp_in; decide) (by decide) rfl dX9_command_49 (fun H locs G => ?_)
  refine lv_iload_n S.1 S.2.1 dX9_command_50 rfl (lv_at hl 0 rfl) ?_
  refine s_iret (x := (d 32)) S G hr hlk dX9_command_51 ?_
  exact ⟨rfl, (st_eq3 (Eq.trans ((up_ne (by decide)).trans ((up_ne (by decide)).trans up_eq)) (show r_1 = (upd mx 2 (nI (recK kp))) by subst er_3 er_2 er_1; rfl)) up_eq (Eq.trans ((up_ne (by decide)).trans up_eq) (show r_2 = (recW d wa kp) by subst er_3 er_2 er_1; rfl)) (fun _ g0 g1 g2 => ((up_ne g1).trans ((up_ne g2).trans (up_ne g0))))), (lt_eq1 (Eq.trans upL_eq (show r_3 = (recS lz (lx 3) kp) by subst er_3 er_2 er_1; rfl)) (fun _ g0 => (upL_ne g0)))⟩
set_option maxHeartbeats 4000000 in
set_option maxRecDepth 100000 in
theorem k_X9_command_no (l : Launch) (E : Ev) {I : SI} {L : SL} (leg : Int32) (cm : Int32) (ht : ¬ (IN3 leg ∧ IN2 cm)) : CS l yX9_command wsX9_command ({ frames := 2, cells := 0, slots := 0, locals := 45 }) E [.ref (E.2.2.2 161), .int leg, .int cm] I L (fun vv I' L' => vv = some (.int (-2000000001 : Int32)) ∧ I' = I ∧ L' = L) := by
  refine CS.of (cc := cX9_command) (maxL := 4) (ret := (some .int)) (by decide) rfl (Nat.le_of_ble_eq_true rfl) ?_
  intro pg en sg mg below meth cg ls S hr hlk hX G hl
  have S : CallFix pg mg cg cX9_command 4 sg _ wsX9_command RX9 := S
  have hl : lv_has ls 4 [(0, .ref (E.2.2.2 161)), (1, .int leg), (2, .int cm)] := hl
  refine lv_iload_n S.1 S.2.1 dX9_command_0 rfl (lv_at hl 1 rfl) ?_
  refine s_callS (As := [.int leg]) (rest := []) S hX G (k_X9_isLeg l E leg) (va_cwS (bytes := cX9_isLeg) (maxL := 1) (ret := (some .boolean)) 1 S.2.2.2.2 gX9_command_X9_isLeg rfl rfl rfl (by decide +kernel) ⟨Nat.le_of_ble_eq_true rfl, Nat.le_of_ble_eq_true rfl⟩) rfl hl.1 rfl (Nat.le_of_ble_eq_true rfl) ⟨Nat.zero_le _, Nat.zero_le _⟩ dX9_command_1 (fun v I1 L1 H locs hR G => ?_)
  obtain ⟨hv, hI, hL⟩ := hR
  subst hv
  have G : GS E I L sg H locs := G.same hI hL
  refine W.eq (g2 := F0 mg 4 ls [.int (if ¬ leg < (0 : Int32) ∧ ¬ (3 : Int32) < leg then 1 else 0)]) rfl ?_
  refine s_if_eq_b (P := ¬ leg < (0 : Int32) ∧ ¬ (3 : Int32) < leg) (tgt := 19) S dX9_command_4 (by decide) (fun c_1 => ?_) (fun c_1 => ?_)
  · refine lv_ldc (v := (-2000000001 : Int32)) S.1 S.2.1 S.2.2.2.1 (S.2.2.2.2 _ (List.mem_of_getElem? (i := 2) rfl)) dX9_command_19 ?_
    refine s_iret (x := (-2000000001 : Int32)) S G hr hlk dX9_command_21 ?_
    exact ⟨rfl, rfl, rfl⟩
  · refine lv_iload_n S.1 S.2.1 dX9_command_7 rfl (lv_at hl 2 rfl) ?_
    refine lv_i2l (v := (Int32.toInt64 cm)) S.1 S.2.1 dX9_command_8 rfl ?_
    refine lv_lconst (v := (0 : Int64)) S.1 S.2.1 dX9_command_9 (by decide) ?_
    refine lv_ldc2 (v := (2 : Int64)) S.1 S.2.1 S.2.2.2.1 (S.2.2.2.2 _ (List.mem_of_getElem? (i := 1) rfl)) dX9_command_10 ?_
    refine s_callS (As := [.long (Int32.toInt64 cm), .long (0 : Int64), .long (2 : Int64)]) (rest := []) S hX G (k_X9_in l E (Int32.toInt64 cm) (0 : Int64) (2 : Int64)) (va_cwS (bytes := cX9_in) (maxL := 6) (ret := (some .boolean)) 3 S.2.2.2.2 gX9_command_X9_in rfl rfl rfl (by decide +kernel) ⟨Nat.le_of_ble_eq_true rfl, Nat.le_of_ble_eq_true rfl⟩) rfl hl.1 rfl (Nat.le_of_ble_eq_true rfl) ⟨Nat.zero_le _, Nat.zero_le _⟩ dX9_command_13 (fun v I1 L1 H locs hR G => ?_)
    obtain ⟨hv, hI, hL⟩ := hR
    subst hv
    have G : GS E I L sg H locs := G.same hI hL
    refine W.eq (g2 := F0 mg 16 ls [.int (if ¬ (Int32.toInt64 cm) < (0 : Int64) ∧ ¬ (2 : Int64) < (Int32.toInt64 cm) then 1 else 0)]) rfl ?_
    refine s_if_ne_b (P := ¬ (Int32.toInt64 cm) < (0 : Int64) ∧ ¬ (2 : Int64) < (Int32.toInt64 cm)) (tgt := 22) S dX9_command_16 (by decide) (fun c_2 => ?_) (fun c_2 => ?_)
    · exact absurd (And.intro c_1 (out64 (a := 0) (b := 2) c_2 (by decide) (by decide))) ht
    · refine lv_ldc (v := (-2000000001 : Int32)) S.1 S.2.1 S.2.2.2.1 (S.2.2.2.2 _ (List.mem_of_getElem? (i := 2) rfl)) dX9_command_19 ?_
      refine s_iret (x := (-2000000001 : Int32)) S G hr hlk dX9_command_21 ?_
      exact ⟨rfl, rfl, rfl⟩
set_option maxHeartbeats 4000000 in
set_option maxRecDepth 100000 in
theorem k_X9_clear_ok_0_0 (l : Launch) (E : Ev) {I : SI} {L : SL} (mx : Nat → Int32) (d : Nat → Int32) (wa : Nat → Int32) (lx : Nat → Int64) (lz : Nat → Int64) (kp : Nat) (e_mx : I (161) = mx) (e_d : I (162) = d) (e_wa : I (163) = wa) (e_lx : L (161) = lx) (e_lz : L (164) = lz) (hx : mx 2 = nI kp) (hkp : kp ≤ 4) (ht : ¬ d 52 = -1 ∧ ¬ ¬ plcM d 40 0 ≤ 0 ∧ absM (d 44) < d 3) : CS l yX9_clear wsX9_clear ({ frames := 4, cells := 0, slots := 0, locals := 88 }) E [.ref (E.2.2.2 161), .int (0 : Int32), .int (0 : Int32)] I L (fun vv I' L' => vv = some (.int (ltdF (upd d 52 (-1)) 40)) ∧ I' = (up (up (up I (161) (upd mx 2 (nI (recK kp)))) (162) (upd d 52 (-1))) (163) (recW d wa kp)) ∧ L' = (upL L (164) (recS lz (lx 3) kp))) := by
  refine CS.of (cc := cX9_clear) (maxL := 3) (ret := (some .int)) (by decide) rfl (Nat.le_of_ble_eq_true rfl) ?_
  intro pg en sg mg below meth cg ls S hr hlk hX G hl
  have S : CallFix pg mg cg cX9_clear 3 sg _ wsX9_clear RX9 := S
  have hl : lv_has ls 3 [(0, .ref (E.2.2.2 161)), (1, .int (0 : Int32)), (2, .int (0 : Int32))] := hl
  refine lv_iload_n S.1 S.2.1 dX9_clear_0 rfl (lv_at hl 1 rfl) ?_
  refine s_callS (As := [.int (0 : Int32)]) (rest := []) S hX G (k_X9_isLoad l E (0 : Int32)) (va_cwS (bytes := cX9_isLoad) (maxL := 1) (ret := (some .boolean)) 1 S.2.2.2.2 gX9_clear_X9_isLoad rfl rfl rfl (by decide +kernel) ⟨Nat.le_of_ble_eq_true rfl, Nat.le_of_ble_eq_true rfl⟩) rfl hl.1 rfl (Nat.le_of_ble_eq_true rfl) ⟨Nat.zero_le _, Nat.zero_le _⟩ dX9_clear_1 (fun v I1 L1 H locs hR G => ?_)
  obtain ⟨hv, hI, hL⟩ := hR
  subst hv
  have G : GS E I L sg H locs := G.same hI hL
  refine W.eq (g2 := F0 mg 4 ls [.int (if ¬ (0 : Int32) < (0 : Int32) ∧ ¬ (1 : Int32) < (0 : Int32) then 1 else 0)]) rfl ?_
  refine s_if_eq_b (P := ¬ (0 : Int32) < (0 : Int32) ∧ ¬ (1 : Int32) < (0 : Int32)) (tgt := 19) S dX9_clear_4 (by decide) (fun h => absurd (by decide) h) (fun _ => ?_)
  refine lv_iload_n S.1 S.2.1 dX9_clear_7 rfl (lv_at hl 2 rfl) ?_
  refine lv_i2l (v := (0 : Int64)) S.1 S.2.1 dX9_clear_8 (by decide) ?_
  refine lv_lconst (v := (0 : Int64)) S.1 S.2.1 dX9_clear_9 (by decide) ?_
  refine lv_ldc2 (v := (2 : Int64)) S.1 S.2.1 S.2.2.2.1 (S.2.2.2.2 _ (List.mem_of_getElem? (i := 1) rfl)) dX9_clear_10 ?_
  refine s_callS (As := [.long (0 : Int64), .long (0 : Int64), .long (2 : Int64)]) (rest := []) S hX G (k_X9_in l E (0 : Int64) (0 : Int64) (2 : Int64)) (va_cwS (bytes := cX9_in) (maxL := 6) (ret := (some .boolean)) 3 S.2.2.2.2 gX9_clear_X9_in rfl rfl rfl (by decide +kernel) ⟨Nat.le_of_ble_eq_true rfl, Nat.le_of_ble_eq_true rfl⟩) rfl hl.1 rfl (Nat.le_of_ble_eq_true rfl) ⟨Nat.zero_le _, Nat.zero_le _⟩ dX9_clear_13 (fun v I1 L1 H locs hR G => ?_)
  obtain ⟨hv, hI, hL⟩ := hR
  subst hv
  have G : GS E I L sg H locs := G.same hI hL
  refine W.eq (g2 := F0 mg 16 ls [.int (if ¬ (0 : Int64) < (0 : Int64) ∧ ¬ (2 : Int64) < (0 : Int64) then 1 else 0)]) rfl ?_
  refine s_if_ne_b (P := ¬ (0 : Int64) < (0 : Int64) ∧ ¬ (2 : Int64) < (0 : Int64)) (tgt := 22) S dX9_clear_16 (by decide) (fun _ => ?_) (fun h => absurd (by decide) h)
  refine lv_aload_n S.1 S.2.1 dX9_clear_22 rfl (lv_at hl 0 rfl) ?_
  refine lv_iload_n S.1 S.2.1 dX9_clear_23 rfl (lv_at hl 1 rfl) ?_
  refine lv_iload_n S.1 S.2.1 dX9_clear_24 rfl (lv_at hl 2 rfl) ?_
  refine s_callV (C := RX9) (As := [.int (0 : Int32), .int (0 : Int32)]) (rest := []) (i := 161) (kd := 9) S hX G (k_X9_canClear_0_0 l E d e_d) (cwV (bytes := cX9_canClear) (maxL := 3) (ret := (some .boolean)) 2 S.2.2.2.2 gX9_clear_X9_canClear rfl rfl rfl (by decide +kernel) ⟨Nat.le_of_ble_eq_true rfl, Nat.le_of_ble_eq_true rfl⟩) (rfl : sh 161 = 9) rfl rfl rfl (by decide) rfl hl.1 rfl (Nat.le_of_ble_eq_true rfl) ⟨Nat.zero_le _, Nat.zero_le _⟩ dX9_clear_25 (fun v I1 L1 H locs hR G => ?_)
  obtain ⟨hv, hI, hL⟩ := hR
  subst hv
  have G : GS E I L sg H locs := G.same hI hL
  refine W.eq (g2 := F0 mg 28 ls [.int (if ¬ d 52 = -1 ∧ ¬ ¬ plcM d 40 0 ≤ 0 ∧ absM (d 44) < d 3 then 1 else 0)]) rfl ?_
  refine s_if_ne_b (P := ¬ d 52 = -1 ∧ ¬ ¬ plcM d 40 0 ≤ 0 ∧ absM (d 44) < d 3) (tgt := 34) S dX9_clear_28 (by decide) (fun _ => ?_) (fun h => absurd ht h)
  refine lv_aload_n S.1 S.2.1 dX9_clear_34 rfl (lv_at hl 0 rfl) ?_
  refine s_callV (C := RX9) (As := []) (rest := []) (i := 161) (kd := 9) S hX G (k_X9_records l E mx d wa lx lz kp e_mx e_d e_wa e_lx e_lz hx hkp) (cwV (bytes := cX9_records) (maxL := 2) (ret := none) 0 S.2.2.2.2 gX9_clear_X9_records rfl rfl rfl (by decide +kernel) ⟨Nat.le_of_ble_eq_true rfl, Nat.le_of_ble_eq_true rfl⟩) (rfl : sh 161 = 9) rfl rfl rfl (by decide) rfl hl.1 rfl (Nat.le_of_ble_eq_true rfl) ⟨Nat.zero_le _, Nat.zero_le _⟩ dX9_clear_35 (fun v I1 L1 H locs hR G => ?_)
  obtain ⟨hv, hI, hL⟩ := hR
  subst hv
  obtain ⟨r_1, er_1⟩ : ∃ r : Nat → Int32, r = (upd mx 2 (nI (recK kp))) := ⟨_, rfl⟩
  rw [← er_1] at hI
  obtain ⟨r_2, er_2⟩ : ∃ r : Nat → Int32, r = (recW d wa kp) := ⟨_, rfl⟩
  rw [← er_2] at hI
  obtain ⟨r_3, er_3⟩ : ∃ r : Nat → Int64, r = (recS lz (lx 3) kp) := ⟨_, rfl⟩
  rw [← er_3] at hL
  have G : GS E (up (up I 161 r_1) 163 r_2) (upL L 164 r_3) sg H locs := G.same hI hL
  refine W.eq (g2 := F0 mg 38 ls []) rfl ?_
  refine lv_aload_n S.1 S.2.1 dX9_clear_38 rfl (lv_at hl 0 rfl) ?_
  refine s_get S hX G (i := 161) (kd := 9) (a := r_1) (v := .ref (E.2.2.2 162)) (C := RX9) (T := TX9) (N := 13) 0 (rfl : sh 161 = 9) ((up_ne (by decide)).trans up_eq) rfl rfl (by decide) rfl (fun _ h => (List.mem_cons_of_mem _ (List.mem_append_right _ h))) (by decide) (List.mem_of_getElem? (i := 4) rfl) (fun _ h => h) dX9_clear_39 ?_
  refine lv_iload_n S.1 S.2.1 dX9_clear_42 rfl (lv_at hl 1 rfl) ?_
  refine s_callS (As := [.int (0 : Int32)]) (rest := [.ref (E.2.2.2 162)]) S hX G (k_X9_loadAt_0 l E) (va_cwS (bytes := cX9_loadAt) (maxL := 1) (ret := (some .int)) 1 S.2.2.2.2 gX9_clear_X9_loadAt rfl rfl rfl (by decide +kernel) ⟨Nat.le_of_ble_eq_true rfl, Nat.le_of_ble_eq_true rfl⟩) rfl hl.1 rfl (Nat.le_of_ble_eq_true rfl) ⟨Nat.zero_le _, Nat.zero_le _⟩ dX9_clear_43 (fun v I1 L1 H locs hR G => ?_)
  obtain ⟨hv, hI, hL⟩ := hR
  subst hv
  have G : GS E (up (up I 161 r_1) 163 r_2) (upL L 164 r_3) sg H locs := G.same hI hL
  refine W.eq (g2 := F0 mg 46 ls [.int (40 : Int32), .ref (E.2.2.2 162)]) rfl ?_
  refine lv_bipush (v := (12 : Int32)) S.1 S.2.1 dX9_clear_46 (by decide) ?_
  refine s_iadd (v := (52 : Int32)) S dX9_clear_48 (by decide) ?_
  refine lv_iconst (v := (3 : Int32)) S.1 S.2.1 dX9_clear_49 (by decide) ?_
  refine lv_iload_n S.1 S.2.1 dX9_clear_50 rfl (lv_at hl 2 rfl) ?_
  refine s_imul (v := (0 : Int32)) S dX9_clear_51 (by decide) ?_
  refine s_iadd (v := (52 : Int32)) S dX9_clear_52 (by decide) ?_
  refine lv_iconst (v := (-1 : Int32)) S.1 S.2.1 dX9_clear_53 (by decide) ?_
  refine s_iast S hX G (i := 162) (kd := 284) (n := 270) (jn := 52) (a := d) (I' := (up (up (up I 161 r_1) 163 r_2) 162 (upd d 52 (-1 : Int32)))) (rfl : sh 162 = 284) ((up_ne (by decide)).trans ((up_ne (by decide)).trans e_d)) (fun _ => rfl) (by decide) (by unfold vp_in; decide) (by decide) rfl dX9_clear_54 (fun H locs G => ?_)
  refine lv_aload_n S.1 S.2.1 dX9_clear_55 rfl (lv_at hl 0 rfl) ?_
  refine lv_iload_n S.1 S.2.1 dX9_clear_56 rfl (lv_at hl 1 rfl) ?_
  refine s_callV (C := RX9) (As := [.int (0 : Int32)]) (rest := []) (i := 161) (kd := 9) S hX G (k_X9_latched_0 l E (upd d 52 (-1 : Int32)) up_eq) (cwV (bytes := cX9_latched) (maxL := 4) (ret := (some .int)) 1 S.2.2.2.2 gX9_clear_X9_latched rfl rfl rfl (by decide +kernel) ⟨Nat.le_of_ble_eq_true rfl, Nat.le_of_ble_eq_true rfl⟩) (rfl : sh 161 = 9) rfl rfl rfl (by decide) rfl hl.1 rfl (Nat.le_of_ble_eq_true rfl) ⟨Nat.zero_le _, Nat.zero_le _⟩ dX9_clear_57 (fun v I1 L1 H locs hR G => ?_)
  obtain ⟨hv, hI, hL⟩ := hR
  subst hv
  have G : GS E (up (up (up I 161 r_1) 163 r_2) 162 (upd d 52 (-1 : Int32))) (upL L 164 r_3) sg H locs := G.same hI hL
  refine W.eq (g2 := F0 mg 60 ls [.int (ltdF (upd d 52 (-1 : Int32)) 40)]) rfl ?_
  refine lv_topi (fun y_4 ey_4 => ?_)
  refine s_iret (x := y_4) S G hr hlk dX9_clear_60 ?_
  exact ⟨(congrArg (fun q : Int32 => some (Value.int q)) (show y_4 = (ltdF (upd d 52 (-1)) 40) by subst ey_4 er_3 er_2 er_1; rfl)), (st_eq3 (Eq.trans ((up_ne (by decide)).trans ((up_ne (by decide)).trans up_eq)) (show r_1 = (upd mx 2 (nI (recK kp))) by subst ey_4 er_3 er_2 er_1; rfl)) (Eq.trans up_eq (show (upd d 52 (-1 : Int32)) = (upd d 52 (-1)) by subst ey_4 er_3 er_2 er_1; rfl)) (Eq.trans ((up_ne (by decide)).trans up_eq) (show r_2 = (recW d wa kp) by subst ey_4 er_3 er_2 er_1; rfl)) (fun _ g0 g1 g2 => ((up_ne g1).trans ((up_ne g2).trans (up_ne g0))))), (lt_eq1 (Eq.trans upL_eq (show r_3 = (recS lz (lx 3) kp) by subst ey_4 er_3 er_2 er_1; rfl)) (fun _ g0 => (upL_ne g0)))⟩
set_option maxHeartbeats 4000000 in
set_option maxRecDepth 100000 in
theorem k_X9_clear_np_0_0 (l : Launch) (E : Ev) {I : SI} {L : SL} (d : Nat → Int32) (e_d : I (162) = d) (ht : ¬ (¬ d 52 = -1 ∧ ¬ ¬ plcM d 40 0 ≤ 0 ∧ absM (d 44) < d 3)) : CS l yX9_clear wsX9_clear ({ frames := 4, cells := 0, slots := 0, locals := 88 }) E [.ref (E.2.2.2 161), .int (0 : Int32), .int (0 : Int32)] I L (fun vv I' L' => vv = some (.int (-2000000002 : Int32)) ∧ I' = I ∧ L' = L) := by
  refine CS.of (cc := cX9_clear) (maxL := 3) (ret := (some .int)) (by decide) rfl (Nat.le_of_ble_eq_true rfl) ?_
  intro pg en sg mg below meth cg ls S hr hlk hX G hl
  have S : CallFix pg mg cg cX9_clear 3 sg _ wsX9_clear RX9 := S
  have hl : lv_has ls 3 [(0, .ref (E.2.2.2 161)), (1, .int (0 : Int32)), (2, .int (0 : Int32))] := hl
  refine lv_iload_n S.1 S.2.1 dX9_clear_0 rfl (lv_at hl 1 rfl) ?_
  refine s_callS (As := [.int (0 : Int32)]) (rest := []) S hX G (k_X9_isLoad l E (0 : Int32)) (va_cwS (bytes := cX9_isLoad) (maxL := 1) (ret := (some .boolean)) 1 S.2.2.2.2 gX9_clear_X9_isLoad rfl rfl rfl (by decide +kernel) ⟨Nat.le_of_ble_eq_true rfl, Nat.le_of_ble_eq_true rfl⟩) rfl hl.1 rfl (Nat.le_of_ble_eq_true rfl) ⟨Nat.zero_le _, Nat.zero_le _⟩ dX9_clear_1 (fun v I1 L1 H locs hR G => ?_)
  obtain ⟨hv, hI, hL⟩ := hR
  subst hv
  have G : GS E I L sg H locs := G.same hI hL
  refine W.eq (g2 := F0 mg 4 ls [.int (if ¬ (0 : Int32) < (0 : Int32) ∧ ¬ (1 : Int32) < (0 : Int32) then 1 else 0)]) rfl ?_
  refine s_if_eq_b (P := ¬ (0 : Int32) < (0 : Int32) ∧ ¬ (1 : Int32) < (0 : Int32)) (tgt := 19) S dX9_clear_4 (by decide) (fun h => absurd (by decide) h) (fun _ => ?_)
  refine lv_iload_n S.1 S.2.1 dX9_clear_7 rfl (lv_at hl 2 rfl) ?_
  refine lv_i2l (v := (0 : Int64)) S.1 S.2.1 dX9_clear_8 (by decide) ?_
  refine lv_lconst (v := (0 : Int64)) S.1 S.2.1 dX9_clear_9 (by decide) ?_
  refine lv_ldc2 (v := (2 : Int64)) S.1 S.2.1 S.2.2.2.1 (S.2.2.2.2 _ (List.mem_of_getElem? (i := 1) rfl)) dX9_clear_10 ?_
  refine s_callS (As := [.long (0 : Int64), .long (0 : Int64), .long (2 : Int64)]) (rest := []) S hX G (k_X9_in l E (0 : Int64) (0 : Int64) (2 : Int64)) (va_cwS (bytes := cX9_in) (maxL := 6) (ret := (some .boolean)) 3 S.2.2.2.2 gX9_clear_X9_in rfl rfl rfl (by decide +kernel) ⟨Nat.le_of_ble_eq_true rfl, Nat.le_of_ble_eq_true rfl⟩) rfl hl.1 rfl (Nat.le_of_ble_eq_true rfl) ⟨Nat.zero_le _, Nat.zero_le _⟩ dX9_clear_13 (fun v I1 L1 H locs hR G => ?_)
  obtain ⟨hv, hI, hL⟩ := hR
  subst hv
  have G : GS E I L sg H locs := G.same hI hL
  refine W.eq (g2 := F0 mg 16 ls [.int (if ¬ (0 : Int64) < (0 : Int64) ∧ ¬ (2 : Int64) < (0 : Int64) then 1 else 0)]) rfl ?_
  refine s_if_ne_b (P := ¬ (0 : Int64) < (0 : Int64) ∧ ¬ (2 : Int64) < (0 : Int64)) (tgt := 22) S dX9_clear_16 (by decide) (fun _ => ?_) (fun h => absurd (by decide) h)
  refine lv_aload_n S.1 S.2.1 dX9_clear_22 rfl (lv_at hl 0 rfl) ?_
  refine lv_iload_n S.1 S.2.1 dX9_clear_23 rfl (lv_at hl 1 rfl) ?_
  refine lv_iload_n S.1 S.2.1 dX9_clear_24 rfl (lv_at hl 2 rfl) ?_
  refine s_callV (C := RX9) (As := [.int (0 : Int32), .int (0 : Int32)]) (rest := []) (i := 161) (kd := 9) S hX G (k_X9_canClear_0_0 l E d e_d) (cwV (bytes := cX9_canClear) (maxL := 3) (ret := (some .boolean)) 2 S.2.2.2.2 gX9_clear_X9_canClear rfl rfl rfl (by decide +kernel) ⟨Nat.le_of_ble_eq_true rfl, Nat.le_of_ble_eq_true rfl⟩) (rfl : sh 161 = 9) rfl rfl rfl (by decide) rfl hl.1 rfl (Nat.le_of_ble_eq_true rfl) ⟨Nat.zero_le _, Nat.zero_le _⟩ dX9_clear_25 (fun v I1 L1 H locs hR G => ?_)
  obtain ⟨hv, hI, hL⟩ := hR
  subst hv
  have G : GS E I L sg H locs := G.same hI hL
  refine W.eq (g2 := F0 mg 28 ls [.int (if ¬ d 52 = -1 ∧ ¬ ¬ plcM d 40 0 ≤ 0 ∧ absM (d 44) < d 3 then 1 else 0)]) rfl ?_
  refine s_if_ne_b (P := ¬ d 52 = -1 ∧ ¬ ¬ plcM d 40 0 ≤ 0 ∧ absM (d 44) < d 3) (tgt := 34) S dX9_clear_28 (by decide) (fun h => absurd h ht) (fun _ => ?_)
  refine lv_ldc (v := (-2000000002 : Int32)) S.1 S.2.1 S.2.2.2.1 (S.2.2.2.2 _ (List.mem_of_getElem? (i := 3) rfl)) dX9_clear_31 ?_
  refine s_iret (x := (-2000000002 : Int32)) S G hr hlk dX9_clear_33 ?_
  exact ⟨rfl, rfl, rfl⟩
set_option maxHeartbeats 4000000 in
set_option maxRecDepth 100000 in
theorem k_X9_clear_ok_0_1 (l : Launch) (E : Ev) {I : SI} {L : SL} (mx : Nat → Int32) (d : Nat → Int32) (wa : Nat → Int32) (lx : Nat → Int64) (lz : Nat → Int64) (kp : Nat) (e_mx : I (161) = mx) (e_d : I (162) = d) (e_wa : I (163) = wa) (e_lx : L (161) = lx) (e_lz : L (164) = lz) (hx : mx 2 = nI kp) (hkp : kp ≤ 4) (ht : ¬ d 55 = -1 ∧ ¬ ¬ plcM d 40 1 ≤ 0) : CS l yX9_clear wsX9_clear ({ frames := 4, cells := 0, slots := 0, locals := 88 }) E [.ref (E.2.2.2 161), .int (0 : Int32), .int (1 : Int32)] I L (fun vv I' L' => vv = some (.int (ltdF (upd d 55 (-1)) 40)) ∧ I' = (up (up (up I (161) (upd mx 2 (nI (recK kp)))) (162) (upd d 55 (-1))) (163) (recW d wa kp)) ∧ L' = (upL L (164) (recS lz (lx 3) kp))) := by
  refine CS.of (cc := cX9_clear) (maxL := 3) (ret := (some .int)) (by decide) rfl (Nat.le_of_ble_eq_true rfl) ?_
  intro pg en sg mg below meth cg ls S hr hlk hX G hl
  have S : CallFix pg mg cg cX9_clear 3 sg _ wsX9_clear RX9 := S
  have hl : lv_has ls 3 [(0, .ref (E.2.2.2 161)), (1, .int (0 : Int32)), (2, .int (1 : Int32))] := hl
  refine lv_iload_n S.1 S.2.1 dX9_clear_0 rfl (lv_at hl 1 rfl) ?_
  refine s_callS (As := [.int (0 : Int32)]) (rest := []) S hX G (k_X9_isLoad l E (0 : Int32)) (va_cwS (bytes := cX9_isLoad) (maxL := 1) (ret := (some .boolean)) 1 S.2.2.2.2 gX9_clear_X9_isLoad rfl rfl rfl (by decide +kernel) ⟨Nat.le_of_ble_eq_true rfl, Nat.le_of_ble_eq_true rfl⟩) rfl hl.1 rfl (Nat.le_of_ble_eq_true rfl) ⟨Nat.zero_le _, Nat.zero_le _⟩ dX9_clear_1 (fun v I1 L1 H locs hR G => ?_)
  obtain ⟨hv, hI, hL⟩ := hR
  subst hv
  have G : GS E I L sg H locs := G.same hI hL
  refine W.eq (g2 := F0 mg 4 ls [.int (if ¬ (0 : Int32) < (0 : Int32) ∧ ¬ (1 : Int32) < (0 : Int32) then 1 else 0)]) rfl ?_
  refine s_if_eq_b (P := ¬ (0 : Int32) < (0 : Int32) ∧ ¬ (1 : Int32) < (0 : Int32)) (tgt := 19) S dX9_clear_4 (by decide) (fun h => absurd (by decide) h) (fun _ => ?_)
  refine lv_iload_n S.1 S.2.1 dX9_clear_7 rfl (lv_at hl 2 rfl) ?_
  refine lv_i2l (v := (1 : Int64)) S.1 S.2.1 dX9_clear_8 (by decide) ?_
  refine lv_lconst (v := (0 : Int64)) S.1 S.2.1 dX9_clear_9 (by decide) ?_
  refine lv_ldc2 (v := (2 : Int64)) S.1 S.2.1 S.2.2.2.1 (S.2.2.2.2 _ (List.mem_of_getElem? (i := 1) rfl)) dX9_clear_10 ?_
  refine s_callS (As := [.long (1 : Int64), .long (0 : Int64), .long (2 : Int64)]) (rest := []) S hX G (k_X9_in l E (1 : Int64) (0 : Int64) (2 : Int64)) (va_cwS (bytes := cX9_in) (maxL := 6) (ret := (some .boolean)) 3 S.2.2.2.2 gX9_clear_X9_in rfl rfl rfl (by decide +kernel) ⟨Nat.le_of_ble_eq_true rfl, Nat.le_of_ble_eq_true rfl⟩) rfl hl.1 rfl (Nat.le_of_ble_eq_true rfl) ⟨Nat.zero_le _, Nat.zero_le _⟩ dX9_clear_13 (fun v I1 L1 H locs hR G => ?_)
  obtain ⟨hv, hI, hL⟩ := hR
  subst hv
  have G : GS E I L sg H locs := G.same hI hL
  refine W.eq (g2 := F0 mg 16 ls [.int (if ¬ (1 : Int64) < (0 : Int64) ∧ ¬ (2 : Int64) < (1 : Int64) then 1 else 0)]) rfl ?_
  refine s_if_ne_b (P := ¬ (1 : Int64) < (0 : Int64) ∧ ¬ (2 : Int64) < (1 : Int64)) (tgt := 22) S dX9_clear_16 (by decide) (fun _ => ?_) (fun h => absurd (by decide) h)
  refine lv_aload_n S.1 S.2.1 dX9_clear_22 rfl (lv_at hl 0 rfl) ?_
  refine lv_iload_n S.1 S.2.1 dX9_clear_23 rfl (lv_at hl 1 rfl) ?_
  refine lv_iload_n S.1 S.2.1 dX9_clear_24 rfl (lv_at hl 2 rfl) ?_
  refine s_callV (C := RX9) (As := [.int (0 : Int32), .int (1 : Int32)]) (rest := []) (i := 161) (kd := 9) S hX G (k_X9_canClear_0_1 l E d e_d) (cwV (bytes := cX9_canClear) (maxL := 3) (ret := (some .boolean)) 2 S.2.2.2.2 gX9_clear_X9_canClear rfl rfl rfl (by decide +kernel) ⟨Nat.le_of_ble_eq_true rfl, Nat.le_of_ble_eq_true rfl⟩) (rfl : sh 161 = 9) rfl rfl rfl (by decide) rfl hl.1 rfl (Nat.le_of_ble_eq_true rfl) ⟨Nat.zero_le _, Nat.zero_le _⟩ dX9_clear_25 (fun v I1 L1 H locs hR G => ?_)
  obtain ⟨hv, hI, hL⟩ := hR
  subst hv
  have G : GS E I L sg H locs := G.same hI hL
  refine W.eq (g2 := F0 mg 28 ls [.int (if ¬ d 55 = -1 ∧ ¬ ¬ plcM d 40 1 ≤ 0 then 1 else 0)]) rfl ?_
  refine s_if_ne_b (P := ¬ d 55 = -1 ∧ ¬ ¬ plcM d 40 1 ≤ 0) (tgt := 34) S dX9_clear_28 (by decide) (fun _ => ?_) (fun h => absurd ht h)
  refine lv_aload_n S.1 S.2.1 dX9_clear_34 rfl (lv_at hl 0 rfl) ?_
  refine s_callV (C := RX9) (As := []) (rest := []) (i := 161) (kd := 9) S hX G (k_X9_records l E mx d wa lx lz kp e_mx e_d e_wa e_lx e_lz hx hkp) (cwV (bytes := cX9_records) (maxL := 2) (ret := none) 0 S.2.2.2.2 gX9_clear_X9_records rfl rfl rfl (by decide +kernel) ⟨Nat.le_of_ble_eq_true rfl, Nat.le_of_ble_eq_true rfl⟩) (rfl : sh 161 = 9) rfl rfl rfl (by decide) rfl hl.1 rfl (Nat.le_of_ble_eq_true rfl) ⟨Nat.zero_le _, Nat.zero_le _⟩ dX9_clear_35 (fun v I1 L1 H locs hR G => ?_)
  obtain ⟨hv, hI, hL⟩ := hR
  subst hv
  obtain ⟨r_1, er_1⟩ : ∃ r : Nat → Int32, r = (upd mx 2 (nI (recK kp))) := ⟨_, rfl⟩
  rw [← er_1] at hI
  obtain ⟨r_2, er_2⟩ : ∃ r : Nat → Int32, r = (recW d wa kp) := ⟨_, rfl⟩
  rw [← er_2] at hI
  obtain ⟨r_3, er_3⟩ : ∃ r : Nat → Int64, r = (recS lz (lx 3) kp) := ⟨_, rfl⟩
  rw [← er_3] at hL
  have G : GS E (up (up I 161 r_1) 163 r_2) (upL L 164 r_3) sg H locs := G.same hI hL
  refine W.eq (g2 := F0 mg 38 ls []) rfl ?_
  refine lv_aload_n S.1 S.2.1 dX9_clear_38 rfl (lv_at hl 0 rfl) ?_
  refine s_get S hX G (i := 161) (kd := 9) (a := r_1) (v := .ref (E.2.2.2 162)) (C := RX9) (T := TX9) (N := 13) 0 (rfl : sh 161 = 9) ((up_ne (by decide)).trans up_eq) rfl rfl (by decide) rfl (fun _ h => (List.mem_cons_of_mem _ (List.mem_append_right _ h))) (by decide) (List.mem_of_getElem? (i := 4) rfl) (fun _ h => h) dX9_clear_39 ?_
  refine lv_iload_n S.1 S.2.1 dX9_clear_42 rfl (lv_at hl 1 rfl) ?_
  refine s_callS (As := [.int (0 : Int32)]) (rest := [.ref (E.2.2.2 162)]) S hX G (k_X9_loadAt_0 l E) (va_cwS (bytes := cX9_loadAt) (maxL := 1) (ret := (some .int)) 1 S.2.2.2.2 gX9_clear_X9_loadAt rfl rfl rfl (by decide +kernel) ⟨Nat.le_of_ble_eq_true rfl, Nat.le_of_ble_eq_true rfl⟩) rfl hl.1 rfl (Nat.le_of_ble_eq_true rfl) ⟨Nat.zero_le _, Nat.zero_le _⟩ dX9_clear_43 (fun v I1 L1 H locs hR G => ?_)
  obtain ⟨hv, hI, hL⟩ := hR
  subst hv
  have G : GS E (up (up I 161 r_1) 163 r_2) (upL L 164 r_3) sg H locs := G.same hI hL
  refine W.eq (g2 := F0 mg 46 ls [.int (40 : Int32), .ref (E.2.2.2 162)]) rfl ?_
  refine lv_bipush (v := (12 : Int32)) S.1 S.2.1 dX9_clear_46 (by decide) ?_
  refine s_iadd (v := (52 : Int32)) S dX9_clear_48 (by decide) ?_
  refine lv_iconst (v := (3 : Int32)) S.1 S.2.1 dX9_clear_49 (by decide) ?_
  refine lv_iload_n S.1 S.2.1 dX9_clear_50 rfl (lv_at hl 2 rfl) ?_
  refine s_imul (v := (3 : Int32)) S dX9_clear_51 (by decide) ?_
  refine s_iadd (v := (55 : Int32)) S dX9_clear_52 (by decide) ?_
  refine lv_iconst (v := (-1 : Int32)) S.1 S.2.1 dX9_clear_53 (by decide) ?_
  refine s_iast S hX G (i := 162) (kd := 284) (n := 270) (jn := 55) (a := d) (I' := (up (up (up I 161 r_1) 163 r_2) 162 (upd d 55 (-1 : Int32)))) (rfl : sh 162 = 284) ((up_ne (by decide)).trans ((up_ne (by decide)).trans e_d)) (fun _ => rfl) (by decide) (by unfold vp_in; decide) (by decide) rfl dX9_clear_54 (fun H locs G => ?_)
  refine lv_aload_n S.1 S.2.1 dX9_clear_55 rfl (lv_at hl 0 rfl) ?_
  refine lv_iload_n S.1 S.2.1 dX9_clear_56 rfl (lv_at hl 1 rfl) ?_
  refine s_callV (C := RX9) (As := [.int (0 : Int32)]) (rest := []) (i := 161) (kd := 9) S hX G (k_X9_latched_0 l E (upd d 55 (-1 : Int32)) up_eq) (cwV (bytes := cX9_latched) (maxL := 4) (ret := (some .int)) 1 S.2.2.2.2 gX9_clear_X9_latched rfl rfl rfl (by decide +kernel) ⟨Nat.le_of_ble_eq_true rfl, Nat.le_of_ble_eq_true rfl⟩) (rfl : sh 161 = 9) rfl rfl rfl (by decide) rfl hl.1 rfl (Nat.le_of_ble_eq_true rfl) ⟨Nat.zero_le _, Nat.zero_le _⟩ dX9_clear_57 (fun v I1 L1 H locs hR G => ?_)
  obtain ⟨hv, hI, hL⟩ := hR
  subst hv
  have G : GS E (up (up (up I 161 r_1) 163 r_2) 162 (upd d 55 (-1 : Int32))) (upL L 164 r_3) sg H locs := G.same hI hL
  refine W.eq (g2 := F0 mg 60 ls [.int (ltdF (upd d 55 (-1 : Int32)) 40)]) rfl ?_
  refine lv_topi (fun y_4 ey_4 => ?_)
  refine s_iret (x := y_4) S G hr hlk dX9_clear_60 ?_
  exact ⟨(congrArg (fun q : Int32 => some (Value.int q)) (show y_4 = (ltdF (upd d 55 (-1)) 40) by subst ey_4 er_3 er_2 er_1; rfl)), (st_eq3 (Eq.trans ((up_ne (by decide)).trans ((up_ne (by decide)).trans up_eq)) (show r_1 = (upd mx 2 (nI (recK kp))) by subst ey_4 er_3 er_2 er_1; rfl)) (Eq.trans up_eq (show (upd d 55 (-1 : Int32)) = (upd d 55 (-1)) by subst ey_4 er_3 er_2 er_1; rfl)) (Eq.trans ((up_ne (by decide)).trans up_eq) (show r_2 = (recW d wa kp) by subst ey_4 er_3 er_2 er_1; rfl)) (fun _ g0 g1 g2 => ((up_ne g1).trans ((up_ne g2).trans (up_ne g0))))), (lt_eq1 (Eq.trans upL_eq (show r_3 = (recS lz (lx 3) kp) by subst ey_4 er_3 er_2 er_1; rfl)) (fun _ g0 => (upL_ne g0)))⟩
set_option maxHeartbeats 4000000 in
set_option maxRecDepth 100000 in
theorem k_X9_clear_np_0_1 (l : Launch) (E : Ev) {I : SI} {L : SL} (d : Nat → Int32) (e_d : I (162) = d) (ht : ¬ (¬ d 55 = -1 ∧ ¬ ¬ plcM d 40 1 ≤ 0)) : CS l yX9_clear wsX9_clear ({ frames := 4, cells := 0, slots := 0, locals := 88 }) E [.ref (E.2.2.2 161), .int (0 : Int32), .int (1 : Int32)] I L (fun vv I' L' => vv = some (.int (-2000000002 : Int32)) ∧ I' = I ∧ L' = L) := by
  refine CS.of (cc := cX9_clear) (maxL := 3) (ret := (some .int)) (by decide) rfl (Nat.le_of_ble_eq_true rfl) ?_
  intro pg en sg mg below meth cg ls S hr hlk hX G hl
  have S : CallFix pg mg cg cX9_clear 3 sg _ wsX9_clear RX9 := S
  have hl : lv_has ls 3 [(0, .ref (E.2.2.2 161)), (1, .int (0 : Int32)), (2, .int (1 : Int32))] := hl
  refine lv_iload_n S.1 S.2.1 dX9_clear_0 rfl (lv_at hl 1 rfl) ?_
  refine s_callS (As := [.int (0 : Int32)]) (rest := []) S hX G (k_X9_isLoad l E (0 : Int32)) (va_cwS (bytes := cX9_isLoad) (maxL := 1) (ret := (some .boolean)) 1 S.2.2.2.2 gX9_clear_X9_isLoad rfl rfl rfl (by decide +kernel) ⟨Nat.le_of_ble_eq_true rfl, Nat.le_of_ble_eq_true rfl⟩) rfl hl.1 rfl (Nat.le_of_ble_eq_true rfl) ⟨Nat.zero_le _, Nat.zero_le _⟩ dX9_clear_1 (fun v I1 L1 H locs hR G => ?_)
  obtain ⟨hv, hI, hL⟩ := hR
  subst hv
  have G : GS E I L sg H locs := G.same hI hL
  refine W.eq (g2 := F0 mg 4 ls [.int (if ¬ (0 : Int32) < (0 : Int32) ∧ ¬ (1 : Int32) < (0 : Int32) then 1 else 0)]) rfl ?_
  refine s_if_eq_b (P := ¬ (0 : Int32) < (0 : Int32) ∧ ¬ (1 : Int32) < (0 : Int32)) (tgt := 19) S dX9_clear_4 (by decide) (fun h => absurd (by decide) h) (fun _ => ?_)
  refine lv_iload_n S.1 S.2.1 dX9_clear_7 rfl (lv_at hl 2 rfl) ?_
  refine lv_i2l (v := (1 : Int64)) S.1 S.2.1 dX9_clear_8 (by decide) ?_
  refine lv_lconst (v := (0 : Int64)) S.1 S.2.1 dX9_clear_9 (by decide) ?_
  refine lv_ldc2 (v := (2 : Int64)) S.1 S.2.1 S.2.2.2.1 (S.2.2.2.2 _ (List.mem_of_getElem? (i := 1) rfl)) dX9_clear_10 ?_
  refine s_callS (As := [.long (1 : Int64), .long (0 : Int64), .long (2 : Int64)]) (rest := []) S hX G (k_X9_in l E (1 : Int64) (0 : Int64) (2 : Int64)) (va_cwS (bytes := cX9_in) (maxL := 6) (ret := (some .boolean)) 3 S.2.2.2.2 gX9_clear_X9_in rfl rfl rfl (by decide +kernel) ⟨Nat.le_of_ble_eq_true rfl, Nat.le_of_ble_eq_true rfl⟩) rfl hl.1 rfl (Nat.le_of_ble_eq_true rfl) ⟨Nat.zero_le _, Nat.zero_le _⟩ dX9_clear_13 (fun v I1 L1 H locs hR G => ?_)
  obtain ⟨hv, hI, hL⟩ := hR
  subst hv
  have G : GS E I L sg H locs := G.same hI hL
  refine W.eq (g2 := F0 mg 16 ls [.int (if ¬ (1 : Int64) < (0 : Int64) ∧ ¬ (2 : Int64) < (1 : Int64) then 1 else 0)]) rfl ?_
  refine s_if_ne_b (P := ¬ (1 : Int64) < (0 : Int64) ∧ ¬ (2 : Int64) < (1 : Int64)) (tgt := 22) S dX9_clear_16 (by decide) (fun _ => ?_) (fun h => absurd (by decide) h)
  refine lv_aload_n S.1 S.2.1 dX9_clear_22 rfl (lv_at hl 0 rfl) ?_
  refine lv_iload_n S.1 S.2.1 dX9_clear_23 rfl (lv_at hl 1 rfl) ?_
  refine lv_iload_n S.1 S.2.1 dX9_clear_24 rfl (lv_at hl 2 rfl) ?_
  refine s_callV (C := RX9) (As := [.int (0 : Int32), .int (1 : Int32)]) (rest := []) (i := 161) (kd := 9) S hX G (k_X9_canClear_0_1 l E d e_d) (cwV (bytes := cX9_canClear) (maxL := 3) (ret := (some .boolean)) 2 S.2.2.2.2 gX9_clear_X9_canClear rfl rfl rfl (by decide +kernel) ⟨Nat.le_of_ble_eq_true rfl, Nat.le_of_ble_eq_true rfl⟩) (rfl : sh 161 = 9) rfl rfl rfl (by decide) rfl hl.1 rfl (Nat.le_of_ble_eq_true rfl) ⟨Nat.zero_le _, Nat.zero_le _⟩ dX9_clear_25 (fun v I1 L1 H locs hR G => ?_)
  obtain ⟨hv, hI, hL⟩ := hR
  subst hv
  have G : GS E I L sg H locs := G.same hI hL
  refine W.eq (g2 := F0 mg 28 ls [.int (if ¬ d 55 = -1 ∧ ¬ ¬ plcM d 40 1 ≤ 0 then 1 else 0)]) rfl ?_
  refine s_if_ne_b (P := ¬ d 55 = -1 ∧ ¬ ¬ plcM d 40 1 ≤ 0) (tgt := 34) S dX9_clear_28 (by decide) (fun h => absurd h ht) (fun _ => ?_)
  refine lv_ldc (v := (-2000000002 : Int32)) S.1 S.2.1 S.2.2.2.1 (S.2.2.2.2 _ (List.mem_of_getElem? (i := 3) rfl)) dX9_clear_31 ?_
  refine s_iret (x := (-2000000002 : Int32)) S G hr hlk dX9_clear_33 ?_
  exact ⟨rfl, rfl, rfl⟩
set_option maxHeartbeats 4000000 in
set_option maxRecDepth 100000 in
theorem k_X9_clear_ok_0_2 (l : Launch) (E : Ev) {I : SI} {L : SL} (mx : Nat → Int32) (d : Nat → Int32) (wa : Nat → Int32) (lx : Nat → Int64) (lz : Nat → Int64) (kp : Nat) (e_mx : I (161) = mx) (e_d : I (162) = d) (e_wa : I (163) = wa) (e_lx : L (161) = lx) (e_lz : L (164) = lz) (hx : mx 2 = nI kp) (hkp : kp ≤ 4) (ht : ¬ d 58 = -1 ∧ ¬ ¬ plcM d 40 2 ≤ 0 ∧ ¬ d 5 / 2 < d 45) : CS l yX9_clear wsX9_clear ({ frames := 4, cells := 0, slots := 0, locals := 88 }) E [.ref (E.2.2.2 161), .int (0 : Int32), .int (2 : Int32)] I L (fun vv I' L' => vv = some (.int (ltdF (upd d 58 (-1)) 40)) ∧ I' = (up (up (up I (161) (upd mx 2 (nI (recK kp)))) (162) (upd d 58 (-1))) (163) (recW d wa kp)) ∧ L' = (upL L (164) (recS lz (lx 3) kp))) := by
  refine CS.of (cc := cX9_clear) (maxL := 3) (ret := (some .int)) (by decide) rfl (Nat.le_of_ble_eq_true rfl) ?_
  intro pg en sg mg below meth cg ls S hr hlk hX G hl
  have S : CallFix pg mg cg cX9_clear 3 sg _ wsX9_clear RX9 := S
  have hl : lv_has ls 3 [(0, .ref (E.2.2.2 161)), (1, .int (0 : Int32)), (2, .int (2 : Int32))] := hl
  refine lv_iload_n S.1 S.2.1 dX9_clear_0 rfl (lv_at hl 1 rfl) ?_
  refine s_callS (As := [.int (0 : Int32)]) (rest := []) S hX G (k_X9_isLoad l E (0 : Int32)) (va_cwS (bytes := cX9_isLoad) (maxL := 1) (ret := (some .boolean)) 1 S.2.2.2.2 gX9_clear_X9_isLoad rfl rfl rfl (by decide +kernel) ⟨Nat.le_of_ble_eq_true rfl, Nat.le_of_ble_eq_true rfl⟩) rfl hl.1 rfl (Nat.le_of_ble_eq_true rfl) ⟨Nat.zero_le _, Nat.zero_le _⟩ dX9_clear_1 (fun v I1 L1 H locs hR G => ?_)
  obtain ⟨hv, hI, hL⟩ := hR
  subst hv
  have G : GS E I L sg H locs := G.same hI hL
  refine W.eq (g2 := F0 mg 4 ls [.int (if ¬ (0 : Int32) < (0 : Int32) ∧ ¬ (1 : Int32) < (0 : Int32) then 1 else 0)]) rfl ?_
  refine s_if_eq_b (P := ¬ (0 : Int32) < (0 : Int32) ∧ ¬ (1 : Int32) < (0 : Int32)) (tgt := 19) S dX9_clear_4 (by decide) (fun h => absurd (by decide) h) (fun _ => ?_)
  refine lv_iload_n S.1 S.2.1 dX9_clear_7 rfl (lv_at hl 2 rfl) ?_
  refine lv_i2l (v := (2 : Int64)) S.1 S.2.1 dX9_clear_8 (by decide) ?_
  refine lv_lconst (v := (0 : Int64)) S.1 S.2.1 dX9_clear_9 (by decide) ?_
  refine lv_ldc2 (v := (2 : Int64)) S.1 S.2.1 S.2.2.2.1 (S.2.2.2.2 _ (List.mem_of_getElem? (i := 1) rfl)) dX9_clear_10 ?_
  refine s_callS (As := [.long (2 : Int64), .long (0 : Int64), .long (2 : Int64)]) (rest := []) S hX G (k_X9_in l E (2 : Int64) (0 : Int64) (2 : Int64)) (va_cwS (bytes := cX9_in) (maxL := 6) (ret := (some .boolean)) 3 S.2.2.2.2 gX9_clear_X9_in rfl rfl rfl (by decide +kernel) ⟨Nat.le_of_ble_eq_true rfl, Nat.le_of_ble_eq_true rfl⟩) rfl hl.1 rfl (Nat.le_of_ble_eq_true rfl) ⟨Nat.zero_le _, Nat.zero_le _⟩ dX9_clear_13 (fun v I1 L1 H locs hR G => ?_)
  obtain ⟨hv, hI, hL⟩ := hR
  subst hv
  have G : GS E I L sg H locs := G.same hI hL
  refine W.eq (g2 := F0 mg 16 ls [.int (if ¬ (2 : Int64) < (0 : Int64) ∧ ¬ (2 : Int64) < (2 : Int64) then 1 else 0)]) rfl ?_
  refine s_if_ne_b (P := ¬ (2 : Int64) < (0 : Int64) ∧ ¬ (2 : Int64) < (2 : Int64)) (tgt := 22) S dX9_clear_16 (by decide) (fun _ => ?_) (fun h => absurd (by decide) h)
  refine lv_aload_n S.1 S.2.1 dX9_clear_22 rfl (lv_at hl 0 rfl) ?_
  refine lv_iload_n S.1 S.2.1 dX9_clear_23 rfl (lv_at hl 1 rfl) ?_
  refine lv_iload_n S.1 S.2.1 dX9_clear_24 rfl (lv_at hl 2 rfl) ?_
  refine s_callV (C := RX9) (As := [.int (0 : Int32), .int (2 : Int32)]) (rest := []) (i := 161) (kd := 9) S hX G (k_X9_canClear_0_2 l E d e_d) (cwV (bytes := cX9_canClear) (maxL := 3) (ret := (some .boolean)) 2 S.2.2.2.2 gX9_clear_X9_canClear rfl rfl rfl (by decide +kernel) ⟨Nat.le_of_ble_eq_true rfl, Nat.le_of_ble_eq_true rfl⟩) (rfl : sh 161 = 9) rfl rfl rfl (by decide) rfl hl.1 rfl (Nat.le_of_ble_eq_true rfl) ⟨Nat.zero_le _, Nat.zero_le _⟩ dX9_clear_25 (fun v I1 L1 H locs hR G => ?_)
  obtain ⟨hv, hI, hL⟩ := hR
  subst hv
  have G : GS E I L sg H locs := G.same hI hL
  refine W.eq (g2 := F0 mg 28 ls [.int (if ¬ d 58 = -1 ∧ ¬ ¬ plcM d 40 2 ≤ 0 ∧ ¬ d 5 / 2 < d 45 then 1 else 0)]) rfl ?_
  refine s_if_ne_b (P := ¬ d 58 = -1 ∧ ¬ ¬ plcM d 40 2 ≤ 0 ∧ ¬ d 5 / 2 < d 45) (tgt := 34) S dX9_clear_28 (by decide) (fun _ => ?_) (fun h => absurd ht h)
  refine lv_aload_n S.1 S.2.1 dX9_clear_34 rfl (lv_at hl 0 rfl) ?_
  refine s_callV (C := RX9) (As := []) (rest := []) (i := 161) (kd := 9) S hX G (k_X9_records l E mx d wa lx lz kp e_mx e_d e_wa e_lx e_lz hx hkp) (cwV (bytes := cX9_records) (maxL := 2) (ret := none) 0 S.2.2.2.2 gX9_clear_X9_records rfl rfl rfl (by decide +kernel) ⟨Nat.le_of_ble_eq_true rfl, Nat.le_of_ble_eq_true rfl⟩) (rfl : sh 161 = 9) rfl rfl rfl (by decide) rfl hl.1 rfl (Nat.le_of_ble_eq_true rfl) ⟨Nat.zero_le _, Nat.zero_le _⟩ dX9_clear_35 (fun v I1 L1 H locs hR G => ?_)
  obtain ⟨hv, hI, hL⟩ := hR
  subst hv
  obtain ⟨r_1, er_1⟩ : ∃ r : Nat → Int32, r = (upd mx 2 (nI (recK kp))) := ⟨_, rfl⟩
  rw [← er_1] at hI
  obtain ⟨r_2, er_2⟩ : ∃ r : Nat → Int32, r = (recW d wa kp) := ⟨_, rfl⟩
  rw [← er_2] at hI
  obtain ⟨r_3, er_3⟩ : ∃ r : Nat → Int64, r = (recS lz (lx 3) kp) := ⟨_, rfl⟩
  rw [← er_3] at hL
  have G : GS E (up (up I 161 r_1) 163 r_2) (upL L 164 r_3) sg H locs := G.same hI hL
  refine W.eq (g2 := F0 mg 38 ls []) rfl ?_
  refine lv_aload_n S.1 S.2.1 dX9_clear_38 rfl (lv_at hl 0 rfl) ?_
  refine s_get S hX G (i := 161) (kd := 9) (a := r_1) (v := .ref (E.2.2.2 162)) (C := RX9) (T := TX9) (N := 13) 0 (rfl : sh 161 = 9) ((up_ne (by decide)).trans up_eq) rfl rfl (by decide) rfl (fun _ h => (List.mem_cons_of_mem _ (List.mem_append_right _ h))) (by decide) (List.mem_of_getElem? (i := 4) rfl) (fun _ h => h) dX9_clear_39 ?_
  refine lv_iload_n S.1 S.2.1 dX9_clear_42 rfl (lv_at hl 1 rfl) ?_
  refine s_callS (As := [.int (0 : Int32)]) (rest := [.ref (E.2.2.2 162)]) S hX G (k_X9_loadAt_0 l E) (va_cwS (bytes := cX9_loadAt) (maxL := 1) (ret := (some .int)) 1 S.2.2.2.2 gX9_clear_X9_loadAt rfl rfl rfl (by decide +kernel) ⟨Nat.le_of_ble_eq_true rfl, Nat.le_of_ble_eq_true rfl⟩) rfl hl.1 rfl (Nat.le_of_ble_eq_true rfl) ⟨Nat.zero_le _, Nat.zero_le _⟩ dX9_clear_43 (fun v I1 L1 H locs hR G => ?_)
  obtain ⟨hv, hI, hL⟩ := hR
  subst hv
  have G : GS E (up (up I 161 r_1) 163 r_2) (upL L 164 r_3) sg H locs := G.same hI hL
  refine W.eq (g2 := F0 mg 46 ls [.int (40 : Int32), .ref (E.2.2.2 162)]) rfl ?_
  refine lv_bipush (v := (12 : Int32)) S.1 S.2.1 dX9_clear_46 (by decide) ?_
  refine s_iadd (v := (52 : Int32)) S dX9_clear_48 (by decide) ?_
  refine lv_iconst (v := (3 : Int32)) S.1 S.2.1 dX9_clear_49 (by decide) ?_
  refine lv_iload_n S.1 S.2.1 dX9_clear_50 rfl (lv_at hl 2 rfl) ?_
  refine s_imul (v := (6 : Int32)) S dX9_clear_51 (by decide) ?_
  refine s_iadd (v := (58 : Int32)) S dX9_clear_52 (by decide) ?_
  refine lv_iconst (v := (-1 : Int32)) S.1 S.2.1 dX9_clear_53 (by decide) ?_
  refine s_iast S hX G (i := 162) (kd := 284) (n := 270) (jn := 58) (a := d) (I' := (up (up (up I 161 r_1) 163 r_2) 162 (upd d 58 (-1 : Int32)))) (rfl : sh 162 = 284) ((up_ne (by decide)).trans ((up_ne (by decide)).trans e_d)) (fun _ => rfl) (by decide) (by unfold vp_in; decide) (by decide) rfl dX9_clear_54 (fun H locs G => ?_)
  refine lv_aload_n S.1 S.2.1 dX9_clear_55 rfl (lv_at hl 0 rfl) ?_
  refine lv_iload_n S.1 S.2.1 dX9_clear_56 rfl (lv_at hl 1 rfl) ?_
  refine s_callV (C := RX9) (As := [.int (0 : Int32)]) (rest := []) (i := 161) (kd := 9) S hX G (k_X9_latched_0 l E (upd d 58 (-1 : Int32)) up_eq) (cwV (bytes := cX9_latched) (maxL := 4) (ret := (some .int)) 1 S.2.2.2.2 gX9_clear_X9_latched rfl rfl rfl (by decide +kernel) ⟨Nat.le_of_ble_eq_true rfl, Nat.le_of_ble_eq_true rfl⟩) (rfl : sh 161 = 9) rfl rfl rfl (by decide) rfl hl.1 rfl (Nat.le_of_ble_eq_true rfl) ⟨Nat.zero_le _, Nat.zero_le _⟩ dX9_clear_57 (fun v I1 L1 H locs hR G => ?_)
  obtain ⟨hv, hI, hL⟩ := hR
  subst hv
  have G : GS E (up (up (up I 161 r_1) 163 r_2) 162 (upd d 58 (-1 : Int32))) (upL L 164 r_3) sg H locs := G.same hI hL
  refine W.eq (g2 := F0 mg 60 ls [.int (ltdF (upd d 58 (-1 : Int32)) 40)]) rfl ?_
  refine lv_topi (fun y_4 ey_4 => ?_)
  refine s_iret (x := y_4) S G hr hlk dX9_clear_60 ?_
  exact ⟨(congrArg (fun q : Int32 => some (Value.int q)) (show y_4 = (ltdF (upd d 58 (-1)) 40) by subst ey_4 er_3 er_2 er_1; rfl)), (st_eq3 (Eq.trans ((up_ne (by decide)).trans ((up_ne (by decide)).trans up_eq)) (show r_1 = (upd mx 2 (nI (recK kp))) by subst ey_4 er_3 er_2 er_1; rfl)) (Eq.trans up_eq (show (upd d 58 (-1 : Int32)) = (upd d 58 (-1)) by subst ey_4 er_3 er_2 er_1; rfl)) (Eq.trans ((up_ne (by decide)).trans up_eq) (show r_2 = (recW d wa kp) by subst ey_4 er_3 er_2 er_1; rfl)) (fun _ g0 g1 g2 => ((up_ne g1).trans ((up_ne g2).trans (up_ne g0))))), (lt_eq1 (Eq.trans upL_eq (show r_3 = (recS lz (lx 3) kp) by subst ey_4 er_3 er_2 er_1; rfl)) (fun _ g0 => (upL_ne g0)))⟩
set_option maxHeartbeats 4000000 in
set_option maxRecDepth 100000 in
theorem k_X9_clear_np_0_2 (l : Launch) (E : Ev) {I : SI} {L : SL} (d : Nat → Int32) (e_d : I (162) = d) (ht : ¬ (¬ d 58 = -1 ∧ ¬ ¬ plcM d 40 2 ≤ 0 ∧ ¬ d 5 / 2 < d 45)) : CS l yX9_clear wsX9_clear ({ frames := 4, cells := 0, slots := 0, locals := 88 }) E [.ref (E.2.2.2 161), .int (0 : Int32), .int (2 : Int32)] I L (fun vv I' L' => vv = some (.int (-2000000002 : Int32)) ∧ I' = I ∧ L' = L) := by
  refine CS.of (cc := cX9_clear) (maxL := 3) (ret := (some .int)) (by decide) rfl (Nat.le_of_ble_eq_true rfl) ?_
  intro pg en sg mg below meth cg ls S hr hlk hX G hl
  have S : CallFix pg mg cg cX9_clear 3 sg _ wsX9_clear RX9 := S
  have hl : lv_has ls 3 [(0, .ref (E.2.2.2 161)), (1, .int (0 : Int32)), (2, .int (2 : Int32))] := hl
  refine lv_iload_n S.1 S.2.1 dX9_clear_0 rfl (lv_at hl 1 rfl) ?_
  refine s_callS (As := [.int (0 : Int32)]) (rest := []) S hX G (k_X9_isLoad l E (0 : Int32)) (va_cwS (bytes := cX9_isLoad) (maxL := 1) (ret := (some .boolean)) 1 S.2.2.2.2 gX9_clear_X9_isLoad rfl rfl rfl (by decide +kernel) ⟨Nat.le_of_ble_eq_true rfl, Nat.le_of_ble_eq_true rfl⟩) rfl hl.1 rfl (Nat.le_of_ble_eq_true rfl) ⟨Nat.zero_le _, Nat.zero_le _⟩ dX9_clear_1 (fun v I1 L1 H locs hR G => ?_)
  obtain ⟨hv, hI, hL⟩ := hR
  subst hv
  have G : GS E I L sg H locs := G.same hI hL
  refine W.eq (g2 := F0 mg 4 ls [.int (if ¬ (0 : Int32) < (0 : Int32) ∧ ¬ (1 : Int32) < (0 : Int32) then 1 else 0)]) rfl ?_
  refine s_if_eq_b (P := ¬ (0 : Int32) < (0 : Int32) ∧ ¬ (1 : Int32) < (0 : Int32)) (tgt := 19) S dX9_clear_4 (by decide) (fun h => absurd (by decide) h) (fun _ => ?_)
  refine lv_iload_n S.1 S.2.1 dX9_clear_7 rfl (lv_at hl 2 rfl) ?_
  refine lv_i2l (v := (2 : Int64)) S.1 S.2.1 dX9_clear_8 (by decide) ?_
  refine lv_lconst (v := (0 : Int64)) S.1 S.2.1 dX9_clear_9 (by decide) ?_
  refine lv_ldc2 (v := (2 : Int64)) S.1 S.2.1 S.2.2.2.1 (S.2.2.2.2 _ (List.mem_of_getElem? (i := 1) rfl)) dX9_clear_10 ?_
  refine s_callS (As := [.long (2 : Int64), .long (0 : Int64), .long (2 : Int64)]) (rest := []) S hX G (k_X9_in l E (2 : Int64) (0 : Int64) (2 : Int64)) (va_cwS (bytes := cX9_in) (maxL := 6) (ret := (some .boolean)) 3 S.2.2.2.2 gX9_clear_X9_in rfl rfl rfl (by decide +kernel) ⟨Nat.le_of_ble_eq_true rfl, Nat.le_of_ble_eq_true rfl⟩) rfl hl.1 rfl (Nat.le_of_ble_eq_true rfl) ⟨Nat.zero_le _, Nat.zero_le _⟩ dX9_clear_13 (fun v I1 L1 H locs hR G => ?_)
  obtain ⟨hv, hI, hL⟩ := hR
  subst hv
  have G : GS E I L sg H locs := G.same hI hL
  refine W.eq (g2 := F0 mg 16 ls [.int (if ¬ (2 : Int64) < (0 : Int64) ∧ ¬ (2 : Int64) < (2 : Int64) then 1 else 0)]) rfl ?_
  refine s_if_ne_b (P := ¬ (2 : Int64) < (0 : Int64) ∧ ¬ (2 : Int64) < (2 : Int64)) (tgt := 22) S dX9_clear_16 (by decide) (fun _ => ?_) (fun h => absurd (by decide) h)
  refine lv_aload_n S.1 S.2.1 dX9_clear_22 rfl (lv_at hl 0 rfl) ?_
  refine lv_iload_n S.1 S.2.1 dX9_clear_23 rfl (lv_at hl 1 rfl) ?_
  refine lv_iload_n S.1 S.2.1 dX9_clear_24 rfl (lv_at hl 2 rfl) ?_
  refine s_callV (C := RX9) (As := [.int (0 : Int32), .int (2 : Int32)]) (rest := []) (i := 161) (kd := 9) S hX G (k_X9_canClear_0_2 l E d e_d) (cwV (bytes := cX9_canClear) (maxL := 3) (ret := (some .boolean)) 2 S.2.2.2.2 gX9_clear_X9_canClear rfl rfl rfl (by decide +kernel) ⟨Nat.le_of_ble_eq_true rfl, Nat.le_of_ble_eq_true rfl⟩) (rfl : sh 161 = 9) rfl rfl rfl (by decide) rfl hl.1 rfl (Nat.le_of_ble_eq_true rfl) ⟨Nat.zero_le _, Nat.zero_le _⟩ dX9_clear_25 (fun v I1 L1 H locs hR G => ?_)
  obtain ⟨hv, hI, hL⟩ := hR
  subst hv
  have G : GS E I L sg H locs := G.same hI hL
  refine W.eq (g2 := F0 mg 28 ls [.int (if ¬ d 58 = -1 ∧ ¬ ¬ plcM d 40 2 ≤ 0 ∧ ¬ d 5 / 2 < d 45 then 1 else 0)]) rfl ?_
  refine s_if_ne_b (P := ¬ d 58 = -1 ∧ ¬ ¬ plcM d 40 2 ≤ 0 ∧ ¬ d 5 / 2 < d 45) (tgt := 34) S dX9_clear_28 (by decide) (fun h => absurd h ht) (fun _ => ?_)
  refine lv_ldc (v := (-2000000002 : Int32)) S.1 S.2.1 S.2.2.2.1 (S.2.2.2.2 _ (List.mem_of_getElem? (i := 3) rfl)) dX9_clear_31 ?_
  refine s_iret (x := (-2000000002 : Int32)) S G hr hlk dX9_clear_33 ?_
  exact ⟨rfl, rfl, rfl⟩
set_option maxHeartbeats 4000000 in
set_option maxRecDepth 100000 in
theorem k_X9_clear_ok_1_0 (l : Launch) (E : Ev) {I : SI} {L : SL} (mx : Nat → Int32) (d : Nat → Int32) (wa : Nat → Int32) (lx : Nat → Int64) (lz : Nat → Int64) (kp : Nat) (e_mx : I (161) = mx) (e_d : I (162) = d) (e_wa : I (163) = wa) (e_lx : L (161) = lx) (e_lz : L (164) = lz) (hx : mx 2 = nI kp) (hkp : kp ≤ 4) (ht : ¬ d 82 = -1 ∧ ¬ ¬ plcM d 70 0 ≤ 0 ∧ absM (d 74) < d 3) : CS l yX9_clear wsX9_clear ({ frames := 4, cells := 0, slots := 0, locals := 88 }) E [.ref (E.2.2.2 161), .int (1 : Int32), .int (0 : Int32)] I L (fun vv I' L' => vv = some (.int (ltdF (upd d 82 (-1)) 70)) ∧ I' = (up (up (up I (161) (upd mx 2 (nI (recK kp)))) (162) (upd d 82 (-1))) (163) (recW d wa kp)) ∧ L' = (upL L (164) (recS lz (lx 3) kp))) := by
  refine CS.of (cc := cX9_clear) (maxL := 3) (ret := (some .int)) (by decide) rfl (Nat.le_of_ble_eq_true rfl) ?_
  intro pg en sg mg below meth cg ls S hr hlk hX G hl
  have S : CallFix pg mg cg cX9_clear 3 sg _ wsX9_clear RX9 := S
  have hl : lv_has ls 3 [(0, .ref (E.2.2.2 161)), (1, .int (1 : Int32)), (2, .int (0 : Int32))] := hl
  refine lv_iload_n S.1 S.2.1 dX9_clear_0 rfl (lv_at hl 1 rfl) ?_
  refine s_callS (As := [.int (1 : Int32)]) (rest := []) S hX G (k_X9_isLoad l E (1 : Int32)) (va_cwS (bytes := cX9_isLoad) (maxL := 1) (ret := (some .boolean)) 1 S.2.2.2.2 gX9_clear_X9_isLoad rfl rfl rfl (by decide +kernel) ⟨Nat.le_of_ble_eq_true rfl, Nat.le_of_ble_eq_true rfl⟩) rfl hl.1 rfl (Nat.le_of_ble_eq_true rfl) ⟨Nat.zero_le _, Nat.zero_le _⟩ dX9_clear_1 (fun v I1 L1 H locs hR G => ?_)
  obtain ⟨hv, hI, hL⟩ := hR
  subst hv
  have G : GS E I L sg H locs := G.same hI hL
  refine W.eq (g2 := F0 mg 4 ls [.int (if ¬ (1 : Int32) < (0 : Int32) ∧ ¬ (1 : Int32) < (1 : Int32) then 1 else 0)]) rfl ?_
  refine s_if_eq_b (P := ¬ (1 : Int32) < (0 : Int32) ∧ ¬ (1 : Int32) < (1 : Int32)) (tgt := 19) S dX9_clear_4 (by decide) (fun h => absurd (by decide) h) (fun _ => ?_)
  refine lv_iload_n S.1 S.2.1 dX9_clear_7 rfl (lv_at hl 2 rfl) ?_
  refine lv_i2l (v := (0 : Int64)) S.1 S.2.1 dX9_clear_8 (by decide) ?_
  refine lv_lconst (v := (0 : Int64)) S.1 S.2.1 dX9_clear_9 (by decide) ?_
  refine lv_ldc2 (v := (2 : Int64)) S.1 S.2.1 S.2.2.2.1 (S.2.2.2.2 _ (List.mem_of_getElem? (i := 1) rfl)) dX9_clear_10 ?_
  refine s_callS (As := [.long (0 : Int64), .long (0 : Int64), .long (2 : Int64)]) (rest := []) S hX G (k_X9_in l E (0 : Int64) (0 : Int64) (2 : Int64)) (va_cwS (bytes := cX9_in) (maxL := 6) (ret := (some .boolean)) 3 S.2.2.2.2 gX9_clear_X9_in rfl rfl rfl (by decide +kernel) ⟨Nat.le_of_ble_eq_true rfl, Nat.le_of_ble_eq_true rfl⟩) rfl hl.1 rfl (Nat.le_of_ble_eq_true rfl) ⟨Nat.zero_le _, Nat.zero_le _⟩ dX9_clear_13 (fun v I1 L1 H locs hR G => ?_)
  obtain ⟨hv, hI, hL⟩ := hR
  subst hv
  have G : GS E I L sg H locs := G.same hI hL
  refine W.eq (g2 := F0 mg 16 ls [.int (if ¬ (0 : Int64) < (0 : Int64) ∧ ¬ (2 : Int64) < (0 : Int64) then 1 else 0)]) rfl ?_
  refine s_if_ne_b (P := ¬ (0 : Int64) < (0 : Int64) ∧ ¬ (2 : Int64) < (0 : Int64)) (tgt := 22) S dX9_clear_16 (by decide) (fun _ => ?_) (fun h => absurd (by decide) h)
  refine lv_aload_n S.1 S.2.1 dX9_clear_22 rfl (lv_at hl 0 rfl) ?_
  refine lv_iload_n S.1 S.2.1 dX9_clear_23 rfl (lv_at hl 1 rfl) ?_
  refine lv_iload_n S.1 S.2.1 dX9_clear_24 rfl (lv_at hl 2 rfl) ?_
  refine s_callV (C := RX9) (As := [.int (1 : Int32), .int (0 : Int32)]) (rest := []) (i := 161) (kd := 9) S hX G (k_X9_canClear_1_0 l E d e_d) (cwV (bytes := cX9_canClear) (maxL := 3) (ret := (some .boolean)) 2 S.2.2.2.2 gX9_clear_X9_canClear rfl rfl rfl (by decide +kernel) ⟨Nat.le_of_ble_eq_true rfl, Nat.le_of_ble_eq_true rfl⟩) (rfl : sh 161 = 9) rfl rfl rfl (by decide) rfl hl.1 rfl (Nat.le_of_ble_eq_true rfl) ⟨Nat.zero_le _, Nat.zero_le _⟩ dX9_clear_25 (fun v I1 L1 H locs hR G => ?_)
  obtain ⟨hv, hI, hL⟩ := hR
  subst hv
  have G : GS E I L sg H locs := G.same hI hL
  refine W.eq (g2 := F0 mg 28 ls [.int (if ¬ d 82 = -1 ∧ ¬ ¬ plcM d 70 0 ≤ 0 ∧ absM (d 74) < d 3 then 1 else 0)]) rfl ?_
  refine s_if_ne_b (P := ¬ d 82 = -1 ∧ ¬ ¬ plcM d 70 0 ≤ 0 ∧ absM (d 74) < d 3) (tgt := 34) S dX9_clear_28 (by decide) (fun _ => ?_) (fun h => absurd ht h)
  refine lv_aload_n S.1 S.2.1 dX9_clear_34 rfl (lv_at hl 0 rfl) ?_
  refine s_callV (C := RX9) (As := []) (rest := []) (i := 161) (kd := 9) S hX G (k_X9_records l E mx d wa lx lz kp e_mx e_d e_wa e_lx e_lz hx hkp) (cwV (bytes := cX9_records) (maxL := 2) (ret := none) 0 S.2.2.2.2 gX9_clear_X9_records rfl rfl rfl (by decide +kernel) ⟨Nat.le_of_ble_eq_true rfl, Nat.le_of_ble_eq_true rfl⟩) (rfl : sh 161 = 9) rfl rfl rfl (by decide) rfl hl.1 rfl (Nat.le_of_ble_eq_true rfl) ⟨Nat.zero_le _, Nat.zero_le _⟩ dX9_clear_35 (fun v I1 L1 H locs hR G => ?_)
  obtain ⟨hv, hI, hL⟩ := hR
  subst hv
  obtain ⟨r_1, er_1⟩ : ∃ r : Nat → Int32, r = (upd mx 2 (nI (recK kp))) := ⟨_, rfl⟩
  rw [← er_1] at hI
  obtain ⟨r_2, er_2⟩ : ∃ r : Nat → Int32, r = (recW d wa kp) := ⟨_, rfl⟩
  rw [← er_2] at hI
  obtain ⟨r_3, er_3⟩ : ∃ r : Nat → Int64, r = (recS lz (lx 3) kp) := ⟨_, rfl⟩
  rw [← er_3] at hL
  have G : GS E (up (up I 161 r_1) 163 r_2) (upL L 164 r_3) sg H locs := G.same hI hL
  refine W.eq (g2 := F0 mg 38 ls []) rfl ?_
  refine lv_aload_n S.1 S.2.1 dX9_clear_38 rfl (lv_at hl 0 rfl) ?_
  refine s_get S hX G (i := 161) (kd := 9) (a := r_1) (v := .ref (E.2.2.2 162)) (C := RX9) (T := TX9) (N := 13) 0 (rfl : sh 161 = 9) ((up_ne (by decide)).trans up_eq) rfl rfl (by decide) rfl (fun _ h => (List.mem_cons_of_mem _ (List.mem_append_right _ h))) (by decide) (List.mem_of_getElem? (i := 4) rfl) (fun _ h => h) dX9_clear_39 ?_
  refine lv_iload_n S.1 S.2.1 dX9_clear_42 rfl (lv_at hl 1 rfl) ?_
  refine s_callS (As := [.int (1 : Int32)]) (rest := [.ref (E.2.2.2 162)]) S hX G (k_X9_loadAt_1 l E) (va_cwS (bytes := cX9_loadAt) (maxL := 1) (ret := (some .int)) 1 S.2.2.2.2 gX9_clear_X9_loadAt rfl rfl rfl (by decide +kernel) ⟨Nat.le_of_ble_eq_true rfl, Nat.le_of_ble_eq_true rfl⟩) rfl hl.1 rfl (Nat.le_of_ble_eq_true rfl) ⟨Nat.zero_le _, Nat.zero_le _⟩ dX9_clear_43 (fun v I1 L1 H locs hR G => ?_)
  obtain ⟨hv, hI, hL⟩ := hR
  subst hv
  have G : GS E (up (up I 161 r_1) 163 r_2) (upL L 164 r_3) sg H locs := G.same hI hL
  refine W.eq (g2 := F0 mg 46 ls [.int (70 : Int32), .ref (E.2.2.2 162)]) rfl ?_
  refine lv_bipush (v := (12 : Int32)) S.1 S.2.1 dX9_clear_46 (by decide) ?_
  refine s_iadd (v := (82 : Int32)) S dX9_clear_48 (by decide) ?_
  refine lv_iconst (v := (3 : Int32)) S.1 S.2.1 dX9_clear_49 (by decide) ?_
  refine lv_iload_n S.1 S.2.1 dX9_clear_50 rfl (lv_at hl 2 rfl) ?_
  refine s_imul (v := (0 : Int32)) S dX9_clear_51 (by decide) ?_
  refine s_iadd (v := (82 : Int32)) S dX9_clear_52 (by decide) ?_
  refine lv_iconst (v := (-1 : Int32)) S.1 S.2.1 dX9_clear_53 (by decide) ?_
  refine s_iast S hX G (i := 162) (kd := 284) (n := 270) (jn := 82) (a := d) (I' := (up (up (up I 161 r_1) 163 r_2) 162 (upd d 82 (-1 : Int32)))) (rfl : sh 162 = 284) ((up_ne (by decide)).trans ((up_ne (by decide)).trans e_d)) (fun _ => rfl) (by decide) (by unfold vp_in; decide) (by decide) rfl dX9_clear_54 (fun H locs G => ?_)
  refine lv_aload_n S.1 S.2.1 dX9_clear_55 rfl (lv_at hl 0 rfl) ?_
  refine lv_iload_n S.1 S.2.1 dX9_clear_56 rfl (lv_at hl 1 rfl) ?_
  refine s_callV (C := RX9) (As := [.int (1 : Int32)]) (rest := []) (i := 161) (kd := 9) S hX G (k_X9_latched_1 l E (upd d 82 (-1 : Int32)) up_eq) (cwV (bytes := cX9_latched) (maxL := 4) (ret := (some .int)) 1 S.2.2.2.2 gX9_clear_X9_latched rfl rfl rfl (by decide +kernel) ⟨Nat.le_of_ble_eq_true rfl, Nat.le_of_ble_eq_true rfl⟩) (rfl : sh 161 = 9) rfl rfl rfl (by decide) rfl hl.1 rfl (Nat.le_of_ble_eq_true rfl) ⟨Nat.zero_le _, Nat.zero_le _⟩ dX9_clear_57 (fun v I1 L1 H locs hR G => ?_)
  obtain ⟨hv, hI, hL⟩ := hR
  subst hv
  have G : GS E (up (up (up I 161 r_1) 163 r_2) 162 (upd d 82 (-1 : Int32))) (upL L 164 r_3) sg H locs := G.same hI hL
  refine W.eq (g2 := F0 mg 60 ls [.int (ltdF (upd d 82 (-1 : Int32)) 70)]) rfl ?_
  refine lv_topi (fun y_4 ey_4 => ?_)
  refine s_iret (x := y_4) S G hr hlk dX9_clear_60 ?_
  exact ⟨(congrArg (fun q : Int32 => some (Value.int q)) (show y_4 = (ltdF (upd d 82 (-1)) 70) by subst ey_4 er_3 er_2 er_1; rfl)), (st_eq3 (Eq.trans ((up_ne (by decide)).trans ((up_ne (by decide)).trans up_eq)) (show r_1 = (upd mx 2 (nI (recK kp))) by subst ey_4 er_3 er_2 er_1; rfl)) (Eq.trans up_eq (show (upd d 82 (-1 : Int32)) = (upd d 82 (-1)) by subst ey_4 er_3 er_2 er_1; rfl)) (Eq.trans ((up_ne (by decide)).trans up_eq) (show r_2 = (recW d wa kp) by subst ey_4 er_3 er_2 er_1; rfl)) (fun _ g0 g1 g2 => ((up_ne g1).trans ((up_ne g2).trans (up_ne g0))))), (lt_eq1 (Eq.trans upL_eq (show r_3 = (recS lz (lx 3) kp) by subst ey_4 er_3 er_2 er_1; rfl)) (fun _ g0 => (upL_ne g0)))⟩
set_option maxHeartbeats 4000000 in
set_option maxRecDepth 100000 in
theorem k_X9_clear_np_1_0 (l : Launch) (E : Ev) {I : SI} {L : SL} (d : Nat → Int32) (e_d : I (162) = d) (ht : ¬ (¬ d 82 = -1 ∧ ¬ ¬ plcM d 70 0 ≤ 0 ∧ absM (d 74) < d 3)) : CS l yX9_clear wsX9_clear ({ frames := 4, cells := 0, slots := 0, locals := 88 }) E [.ref (E.2.2.2 161), .int (1 : Int32), .int (0 : Int32)] I L (fun vv I' L' => vv = some (.int (-2000000002 : Int32)) ∧ I' = I ∧ L' = L) := by
  refine CS.of (cc := cX9_clear) (maxL := 3) (ret := (some .int)) (by decide) rfl (Nat.le_of_ble_eq_true rfl) ?_
  intro pg en sg mg below meth cg ls S hr hlk hX G hl
  have S : CallFix pg mg cg cX9_clear 3 sg _ wsX9_clear RX9 := S
  have hl : lv_has ls 3 [(0, .ref (E.2.2.2 161)), (1, .int (1 : Int32)), (2, .int (0 : Int32))] := hl
  refine lv_iload_n S.1 S.2.1 dX9_clear_0 rfl (lv_at hl 1 rfl) ?_
  refine s_callS (As := [.int (1 : Int32)]) (rest := []) S hX G (k_X9_isLoad l E (1 : Int32)) (va_cwS (bytes := cX9_isLoad) (maxL := 1) (ret := (some .boolean)) 1 S.2.2.2.2 gX9_clear_X9_isLoad rfl rfl rfl (by decide +kernel) ⟨Nat.le_of_ble_eq_true rfl, Nat.le_of_ble_eq_true rfl⟩) rfl hl.1 rfl (Nat.le_of_ble_eq_true rfl) ⟨Nat.zero_le _, Nat.zero_le _⟩ dX9_clear_1 (fun v I1 L1 H locs hR G => ?_)
  obtain ⟨hv, hI, hL⟩ := hR
  subst hv
  have G : GS E I L sg H locs := G.same hI hL
  refine W.eq (g2 := F0 mg 4 ls [.int (if ¬ (1 : Int32) < (0 : Int32) ∧ ¬ (1 : Int32) < (1 : Int32) then 1 else 0)]) rfl ?_
  refine s_if_eq_b (P := ¬ (1 : Int32) < (0 : Int32) ∧ ¬ (1 : Int32) < (1 : Int32)) (tgt := 19) S dX9_clear_4 (by decide) (fun h => absurd (by decide) h) (fun _ => ?_)
  refine lv_iload_n S.1 S.2.1 dX9_clear_7 rfl (lv_at hl 2 rfl) ?_
  refine lv_i2l (v := (0 : Int64)) S.1 S.2.1 dX9_clear_8 (by decide) ?_
  refine lv_lconst (v := (0 : Int64)) S.1 S.2.1 dX9_clear_9 (by decide) ?_
  refine lv_ldc2 (v := (2 : Int64)) S.1 S.2.1 S.2.2.2.1 (S.2.2.2.2 _ (List.mem_of_getElem? (i := 1) rfl)) dX9_clear_10 ?_
  refine s_callS (As := [.long (0 : Int64), .long (0 : Int64), .long (2 : Int64)]) (rest := []) S hX G (k_X9_in l E (0 : Int64) (0 : Int64) (2 : Int64)) (va_cwS (bytes := cX9_in) (maxL := 6) (ret := (some .boolean)) 3 S.2.2.2.2 gX9_clear_X9_in rfl rfl rfl (by decide +kernel) ⟨Nat.le_of_ble_eq_true rfl, Nat.le_of_ble_eq_true rfl⟩) rfl hl.1 rfl (Nat.le_of_ble_eq_true rfl) ⟨Nat.zero_le _, Nat.zero_le _⟩ dX9_clear_13 (fun v I1 L1 H locs hR G => ?_)
  obtain ⟨hv, hI, hL⟩ := hR
  subst hv
  have G : GS E I L sg H locs := G.same hI hL
  refine W.eq (g2 := F0 mg 16 ls [.int (if ¬ (0 : Int64) < (0 : Int64) ∧ ¬ (2 : Int64) < (0 : Int64) then 1 else 0)]) rfl ?_
  refine s_if_ne_b (P := ¬ (0 : Int64) < (0 : Int64) ∧ ¬ (2 : Int64) < (0 : Int64)) (tgt := 22) S dX9_clear_16 (by decide) (fun _ => ?_) (fun h => absurd (by decide) h)
  refine lv_aload_n S.1 S.2.1 dX9_clear_22 rfl (lv_at hl 0 rfl) ?_
  refine lv_iload_n S.1 S.2.1 dX9_clear_23 rfl (lv_at hl 1 rfl) ?_
  refine lv_iload_n S.1 S.2.1 dX9_clear_24 rfl (lv_at hl 2 rfl) ?_
  refine s_callV (C := RX9) (As := [.int (1 : Int32), .int (0 : Int32)]) (rest := []) (i := 161) (kd := 9) S hX G (k_X9_canClear_1_0 l E d e_d) (cwV (bytes := cX9_canClear) (maxL := 3) (ret := (some .boolean)) 2 S.2.2.2.2 gX9_clear_X9_canClear rfl rfl rfl (by decide +kernel) ⟨Nat.le_of_ble_eq_true rfl, Nat.le_of_ble_eq_true rfl⟩) (rfl : sh 161 = 9) rfl rfl rfl (by decide) rfl hl.1 rfl (Nat.le_of_ble_eq_true rfl) ⟨Nat.zero_le _, Nat.zero_le _⟩ dX9_clear_25 (fun v I1 L1 H locs hR G => ?_)
  obtain ⟨hv, hI, hL⟩ := hR
  subst hv
  have G : GS E I L sg H locs := G.same hI hL
  refine W.eq (g2 := F0 mg 28 ls [.int (if ¬ d 82 = -1 ∧ ¬ ¬ plcM d 70 0 ≤ 0 ∧ absM (d 74) < d 3 then 1 else 0)]) rfl ?_
  refine s_if_ne_b (P := ¬ d 82 = -1 ∧ ¬ ¬ plcM d 70 0 ≤ 0 ∧ absM (d 74) < d 3) (tgt := 34) S dX9_clear_28 (by decide) (fun h => absurd h ht) (fun _ => ?_)
  refine lv_ldc (v := (-2000000002 : Int32)) S.1 S.2.1 S.2.2.2.1 (S.2.2.2.2 _ (List.mem_of_getElem? (i := 3) rfl)) dX9_clear_31 ?_
  refine s_iret (x := (-2000000002 : Int32)) S G hr hlk dX9_clear_33 ?_
  exact ⟨rfl, rfl, rfl⟩
set_option maxHeartbeats 4000000 in
set_option maxRecDepth 100000 in
theorem k_X9_clear_ok_1_1 (l : Launch) (E : Ev) {I : SI} {L : SL} (mx : Nat → Int32) (d : Nat → Int32) (wa : Nat → Int32) (lx : Nat → Int64) (lz : Nat → Int64) (kp : Nat) (e_mx : I (161) = mx) (e_d : I (162) = d) (e_wa : I (163) = wa) (e_lx : L (161) = lx) (e_lz : L (164) = lz) (hx : mx 2 = nI kp) (hkp : kp ≤ 4) (ht : ¬ d 85 = -1 ∧ ¬ ¬ plcM d 70 1 ≤ 0) : CS l yX9_clear wsX9_clear ({ frames := 4, cells := 0, slots := 0, locals := 88 }) E [.ref (E.2.2.2 161), .int (1 : Int32), .int (1 : Int32)] I L (fun vv I' L' => vv = some (.int (ltdF (upd d 85 (-1)) 70)) ∧ I' = (up (up (up I (161) (upd mx 2 (nI (recK kp)))) (162) (upd d 85 (-1))) (163) (recW d wa kp)) ∧ L' = (upL L (164) (recS lz (lx 3) kp))) := by
  refine CS.of (cc := cX9_clear) (maxL := 3) (ret := (some .int)) (by decide) rfl (Nat.le_of_ble_eq_true rfl) ?_
  intro pg en sg mg below meth cg ls S hr hlk hX G hl
  have S : CallFix pg mg cg cX9_clear 3 sg _ wsX9_clear RX9 := S
  have hl : lv_has ls 3 [(0, .ref (E.2.2.2 161)), (1, .int (1 : Int32)), (2, .int (1 : Int32))] := hl
  refine lv_iload_n S.1 S.2.1 dX9_clear_0 rfl (lv_at hl 1 rfl) ?_
  refine s_callS (As := [.int (1 : Int32)]) (rest := []) S hX G (k_X9_isLoad l E (1 : Int32)) (va_cwS (bytes := cX9_isLoad) (maxL := 1) (ret := (some .boolean)) 1 S.2.2.2.2 gX9_clear_X9_isLoad rfl rfl rfl (by decide +kernel) ⟨Nat.le_of_ble_eq_true rfl, Nat.le_of_ble_eq_true rfl⟩) rfl hl.1 rfl (Nat.le_of_ble_eq_true rfl) ⟨Nat.zero_le _, Nat.zero_le _⟩ dX9_clear_1 (fun v I1 L1 H locs hR G => ?_)
  obtain ⟨hv, hI, hL⟩ := hR
  subst hv
  have G : GS E I L sg H locs := G.same hI hL
  refine W.eq (g2 := F0 mg 4 ls [.int (if ¬ (1 : Int32) < (0 : Int32) ∧ ¬ (1 : Int32) < (1 : Int32) then 1 else 0)]) rfl ?_
  refine s_if_eq_b (P := ¬ (1 : Int32) < (0 : Int32) ∧ ¬ (1 : Int32) < (1 : Int32)) (tgt := 19) S dX9_clear_4 (by decide) (fun h => absurd (by decide) h) (fun _ => ?_)
  refine lv_iload_n S.1 S.2.1 dX9_clear_7 rfl (lv_at hl 2 rfl) ?_
  refine lv_i2l (v := (1 : Int64)) S.1 S.2.1 dX9_clear_8 (by decide) ?_
  refine lv_lconst (v := (0 : Int64)) S.1 S.2.1 dX9_clear_9 (by decide) ?_
  refine lv_ldc2 (v := (2 : Int64)) S.1 S.2.1 S.2.2.2.1 (S.2.2.2.2 _ (List.mem_of_getElem? (i := 1) rfl)) dX9_clear_10 ?_
  refine s_callS (As := [.long (1 : Int64), .long (0 : Int64), .long (2 : Int64)]) (rest := []) S hX G (k_X9_in l E (1 : Int64) (0 : Int64) (2 : Int64)) (va_cwS (bytes := cX9_in) (maxL := 6) (ret := (some .boolean)) 3 S.2.2.2.2 gX9_clear_X9_in rfl rfl rfl (by decide +kernel) ⟨Nat.le_of_ble_eq_true rfl, Nat.le_of_ble_eq_true rfl⟩) rfl hl.1 rfl (Nat.le_of_ble_eq_true rfl) ⟨Nat.zero_le _, Nat.zero_le _⟩ dX9_clear_13 (fun v I1 L1 H locs hR G => ?_)
  obtain ⟨hv, hI, hL⟩ := hR
  subst hv
  have G : GS E I L sg H locs := G.same hI hL
  refine W.eq (g2 := F0 mg 16 ls [.int (if ¬ (1 : Int64) < (0 : Int64) ∧ ¬ (2 : Int64) < (1 : Int64) then 1 else 0)]) rfl ?_
  refine s_if_ne_b (P := ¬ (1 : Int64) < (0 : Int64) ∧ ¬ (2 : Int64) < (1 : Int64)) (tgt := 22) S dX9_clear_16 (by decide) (fun _ => ?_) (fun h => absurd (by decide) h)
  refine lv_aload_n S.1 S.2.1 dX9_clear_22 rfl (lv_at hl 0 rfl) ?_
  refine lv_iload_n S.1 S.2.1 dX9_clear_23 rfl (lv_at hl 1 rfl) ?_
  refine lv_iload_n S.1 S.2.1 dX9_clear_24 rfl (lv_at hl 2 rfl) ?_
  refine s_callV (C := RX9) (As := [.int (1 : Int32), .int (1 : Int32)]) (rest := []) (i := 161) (kd := 9) S hX G (k_X9_canClear_1_1 l E d e_d) (cwV (bytes := cX9_canClear) (maxL := 3) (ret := (some .boolean)) 2 S.2.2.2.2 gX9_clear_X9_canClear rfl rfl rfl (by decide +kernel) ⟨Nat.le_of_ble_eq_true rfl, Nat.le_of_ble_eq_true rfl⟩) (rfl : sh 161 = 9) rfl rfl rfl (by decide) rfl hl.1 rfl (Nat.le_of_ble_eq_true rfl) ⟨Nat.zero_le _, Nat.zero_le _⟩ dX9_clear_25 (fun v I1 L1 H locs hR G => ?_)
  obtain ⟨hv, hI, hL⟩ := hR
  subst hv
  have G : GS E I L sg H locs := G.same hI hL
  refine W.eq (g2 := F0 mg 28 ls [.int (if ¬ d 85 = -1 ∧ ¬ ¬ plcM d 70 1 ≤ 0 then 1 else 0)]) rfl ?_
  refine s_if_ne_b (P := ¬ d 85 = -1 ∧ ¬ ¬ plcM d 70 1 ≤ 0) (tgt := 34) S dX9_clear_28 (by decide) (fun _ => ?_) (fun h => absurd ht h)
  refine lv_aload_n S.1 S.2.1 dX9_clear_34 rfl (lv_at hl 0 rfl) ?_
  refine s_callV (C := RX9) (As := []) (rest := []) (i := 161) (kd := 9) S hX G (k_X9_records l E mx d wa lx lz kp e_mx e_d e_wa e_lx e_lz hx hkp) (cwV (bytes := cX9_records) (maxL := 2) (ret := none) 0 S.2.2.2.2 gX9_clear_X9_records rfl rfl rfl (by decide +kernel) ⟨Nat.le_of_ble_eq_true rfl, Nat.le_of_ble_eq_true rfl⟩) (rfl : sh 161 = 9) rfl rfl rfl (by decide) rfl hl.1 rfl (Nat.le_of_ble_eq_true rfl) ⟨Nat.zero_le _, Nat.zero_le _⟩ dX9_clear_35 (fun v I1 L1 H locs hR G => ?_)
  obtain ⟨hv, hI, hL⟩ := hR
  subst hv
  obtain ⟨r_1, er_1⟩ : ∃ r : Nat → Int32, r = (upd mx 2 (nI (recK kp))) := ⟨_, rfl⟩
  rw [← er_1] at hI
  obtain ⟨r_2, er_2⟩ : ∃ r : Nat → Int32, r = (recW d wa kp) := ⟨_, rfl⟩
  rw [← er_2] at hI
  obtain ⟨r_3, er_3⟩ : ∃ r : Nat → Int64, r = (recS lz (lx 3) kp) := ⟨_, rfl⟩
  rw [← er_3] at hL
  have G : GS E (up (up I 161 r_1) 163 r_2) (upL L 164 r_3) sg H locs := G.same hI hL
  refine W.eq (g2 := F0 mg 38 ls []) rfl ?_
  refine lv_aload_n S.1 S.2.1 dX9_clear_38 rfl (lv_at hl 0 rfl) ?_
  refine s_get S hX G (i := 161) (kd := 9) (a := r_1) (v := .ref (E.2.2.2 162)) (C := RX9) (T := TX9) (N := 13) 0 (rfl : sh 161 = 9) ((up_ne (by decide)).trans up_eq) rfl rfl (by decide) rfl (fun _ h => (List.mem_cons_of_mem _ (List.mem_append_right _ h))) (by decide) (List.mem_of_getElem? (i := 4) rfl) (fun _ h => h) dX9_clear_39 ?_
  refine lv_iload_n S.1 S.2.1 dX9_clear_42 rfl (lv_at hl 1 rfl) ?_
  refine s_callS (As := [.int (1 : Int32)]) (rest := [.ref (E.2.2.2 162)]) S hX G (k_X9_loadAt_1 l E) (va_cwS (bytes := cX9_loadAt) (maxL := 1) (ret := (some .int)) 1 S.2.2.2.2 gX9_clear_X9_loadAt rfl rfl rfl (by decide +kernel) ⟨Nat.le_of_ble_eq_true rfl, Nat.le_of_ble_eq_true rfl⟩) rfl hl.1 rfl (Nat.le_of_ble_eq_true rfl) ⟨Nat.zero_le _, Nat.zero_le _⟩ dX9_clear_43 (fun v I1 L1 H locs hR G => ?_)
  obtain ⟨hv, hI, hL⟩ := hR
  subst hv
  have G : GS E (up (up I 161 r_1) 163 r_2) (upL L 164 r_3) sg H locs := G.same hI hL
  refine W.eq (g2 := F0 mg 46 ls [.int (70 : Int32), .ref (E.2.2.2 162)]) rfl ?_
  refine lv_bipush (v := (12 : Int32)) S.1 S.2.1 dX9_clear_46 (by decide) ?_
  refine s_iadd (v := (82 : Int32)) S dX9_clear_48 (by decide) ?_
  refine lv_iconst (v := (3 : Int32)) S.1 S.2.1 dX9_clear_49 (by decide) ?_
  refine lv_iload_n S.1 S.2.1 dX9_clear_50 rfl (lv_at hl 2 rfl) ?_
  refine s_imul (v := (3 : Int32)) S dX9_clear_51 (by decide) ?_
  refine s_iadd (v := (85 : Int32)) S dX9_clear_52 (by decide) ?_
  refine lv_iconst (v := (-1 : Int32)) S.1 S.2.1 dX9_clear_53 (by decide) ?_
  refine s_iast S hX G (i := 162) (kd := 284) (n := 270) (jn := 85) (a := d) (I' := (up (up (up I 161 r_1) 163 r_2) 162 (upd d 85 (-1 : Int32)))) (rfl : sh 162 = 284) ((up_ne (by decide)).trans ((up_ne (by decide)).trans e_d)) (fun _ => rfl) (by decide) (by unfold vp_in; decide) (by decide) rfl dX9_clear_54 (fun H locs G => ?_)
  refine lv_aload_n S.1 S.2.1 dX9_clear_55 rfl (lv_at hl 0 rfl) ?_
  refine lv_iload_n S.1 S.2.1 dX9_clear_56 rfl (lv_at hl 1 rfl) ?_
  refine s_callV (C := RX9) (As := [.int (1 : Int32)]) (rest := []) (i := 161) (kd := 9) S hX G (k_X9_latched_1 l E (upd d 85 (-1 : Int32)) up_eq) (cwV (bytes := cX9_latched) (maxL := 4) (ret := (some .int)) 1 S.2.2.2.2 gX9_clear_X9_latched rfl rfl rfl (by decide +kernel) ⟨Nat.le_of_ble_eq_true rfl, Nat.le_of_ble_eq_true rfl⟩) (rfl : sh 161 = 9) rfl rfl rfl (by decide) rfl hl.1 rfl (Nat.le_of_ble_eq_true rfl) ⟨Nat.zero_le _, Nat.zero_le _⟩ dX9_clear_57 (fun v I1 L1 H locs hR G => ?_)
  obtain ⟨hv, hI, hL⟩ := hR
  subst hv
  have G : GS E (up (up (up I 161 r_1) 163 r_2) 162 (upd d 85 (-1 : Int32))) (upL L 164 r_3) sg H locs := G.same hI hL
  refine W.eq (g2 := F0 mg 60 ls [.int (ltdF (upd d 85 (-1 : Int32)) 70)]) rfl ?_
  refine lv_topi (fun y_4 ey_4 => ?_)
  refine s_iret (x := y_4) S G hr hlk dX9_clear_60 ?_
  exact ⟨(congrArg (fun q : Int32 => some (Value.int q)) (show y_4 = (ltdF (upd d 85 (-1)) 70) by subst ey_4 er_3 er_2 er_1; rfl)), (st_eq3 (Eq.trans ((up_ne (by decide)).trans ((up_ne (by decide)).trans up_eq)) (show r_1 = (upd mx 2 (nI (recK kp))) by subst ey_4 er_3 er_2 er_1; rfl)) (Eq.trans up_eq (show (upd d 85 (-1 : Int32)) = (upd d 85 (-1)) by subst ey_4 er_3 er_2 er_1; rfl)) (Eq.trans ((up_ne (by decide)).trans up_eq) (show r_2 = (recW d wa kp) by subst ey_4 er_3 er_2 er_1; rfl)) (fun _ g0 g1 g2 => ((up_ne g1).trans ((up_ne g2).trans (up_ne g0))))), (lt_eq1 (Eq.trans upL_eq (show r_3 = (recS lz (lx 3) kp) by subst ey_4 er_3 er_2 er_1; rfl)) (fun _ g0 => (upL_ne g0)))⟩
set_option maxHeartbeats 4000000 in
set_option maxRecDepth 100000 in
theorem k_X9_clear_np_1_1 (l : Launch) (E : Ev) {I : SI} {L : SL} (d : Nat → Int32) (e_d : I (162) = d) (ht : ¬ (¬ d 85 = -1 ∧ ¬ ¬ plcM d 70 1 ≤ 0)) : CS l yX9_clear wsX9_clear ({ frames := 4, cells := 0, slots := 0, locals := 88 }) E [.ref (E.2.2.2 161), .int (1 : Int32), .int (1 : Int32)] I L (fun vv I' L' => vv = some (.int (-2000000002 : Int32)) ∧ I' = I ∧ L' = L) := by
  refine CS.of (cc := cX9_clear) (maxL := 3) (ret := (some .int)) (by decide) rfl (Nat.le_of_ble_eq_true rfl) ?_
  intro pg en sg mg below meth cg ls S hr hlk hX G hl
  have S : CallFix pg mg cg cX9_clear 3 sg _ wsX9_clear RX9 := S
  have hl : lv_has ls 3 [(0, .ref (E.2.2.2 161)), (1, .int (1 : Int32)), (2, .int (1 : Int32))] := hl
  refine lv_iload_n S.1 S.2.1 dX9_clear_0 rfl (lv_at hl 1 rfl) ?_
  refine s_callS (As := [.int (1 : Int32)]) (rest := []) S hX G (k_X9_isLoad l E (1 : Int32)) (va_cwS (bytes := cX9_isLoad) (maxL := 1) (ret := (some .boolean)) 1 S.2.2.2.2 gX9_clear_X9_isLoad rfl rfl rfl (by decide +kernel) ⟨Nat.le_of_ble_eq_true rfl, Nat.le_of_ble_eq_true rfl⟩) rfl hl.1 rfl (Nat.le_of_ble_eq_true rfl) ⟨Nat.zero_le _, Nat.zero_le _⟩ dX9_clear_1 (fun v I1 L1 H locs hR G => ?_)
  obtain ⟨hv, hI, hL⟩ := hR
  subst hv
  have G : GS E I L sg H locs := G.same hI hL
  refine W.eq (g2 := F0 mg 4 ls [.int (if ¬ (1 : Int32) < (0 : Int32) ∧ ¬ (1 : Int32) < (1 : Int32) then 1 else 0)]) rfl ?_
  refine s_if_eq_b (P := ¬ (1 : Int32) < (0 : Int32) ∧ ¬ (1 : Int32) < (1 : Int32)) (tgt := 19) S dX9_clear_4 (by decide) (fun h => absurd (by decide) h) (fun _ => ?_)
  refine lv_iload_n S.1 S.2.1 dX9_clear_7 rfl (lv_at hl 2 rfl) ?_
  refine lv_i2l (v := (1 : Int64)) S.1 S.2.1 dX9_clear_8 (by decide) ?_
  refine lv_lconst (v := (0 : Int64)) S.1 S.2.1 dX9_clear_9 (by decide) ?_
  refine lv_ldc2 (v := (2 : Int64)) S.1 S.2.1 S.2.2.2.1 (S.2.2.2.2 _ (List.mem_of_getElem? (i := 1) rfl)) dX9_clear_10 ?_
  refine s_callS (As := [.long (1 : Int64), .long (0 : Int64), .long (2 : Int64)]) (rest := []) S hX G (k_X9_in l E (1 : Int64) (0 : Int64) (2 : Int64)) (va_cwS (bytes := cX9_in) (maxL := 6) (ret := (some .boolean)) 3 S.2.2.2.2 gX9_clear_X9_in rfl rfl rfl (by decide +kernel) ⟨Nat.le_of_ble_eq_true rfl, Nat.le_of_ble_eq_true rfl⟩) rfl hl.1 rfl (Nat.le_of_ble_eq_true rfl) ⟨Nat.zero_le _, Nat.zero_le _⟩ dX9_clear_13 (fun v I1 L1 H locs hR G => ?_)
  obtain ⟨hv, hI, hL⟩ := hR
  subst hv
  have G : GS E I L sg H locs := G.same hI hL
  refine W.eq (g2 := F0 mg 16 ls [.int (if ¬ (1 : Int64) < (0 : Int64) ∧ ¬ (2 : Int64) < (1 : Int64) then 1 else 0)]) rfl ?_
  refine s_if_ne_b (P := ¬ (1 : Int64) < (0 : Int64) ∧ ¬ (2 : Int64) < (1 : Int64)) (tgt := 22) S dX9_clear_16 (by decide) (fun _ => ?_) (fun h => absurd (by decide) h)
  refine lv_aload_n S.1 S.2.1 dX9_clear_22 rfl (lv_at hl 0 rfl) ?_
  refine lv_iload_n S.1 S.2.1 dX9_clear_23 rfl (lv_at hl 1 rfl) ?_
  refine lv_iload_n S.1 S.2.1 dX9_clear_24 rfl (lv_at hl 2 rfl) ?_
  refine s_callV (C := RX9) (As := [.int (1 : Int32), .int (1 : Int32)]) (rest := []) (i := 161) (kd := 9) S hX G (k_X9_canClear_1_1 l E d e_d) (cwV (bytes := cX9_canClear) (maxL := 3) (ret := (some .boolean)) 2 S.2.2.2.2 gX9_clear_X9_canClear rfl rfl rfl (by decide +kernel) ⟨Nat.le_of_ble_eq_true rfl, Nat.le_of_ble_eq_true rfl⟩) (rfl : sh 161 = 9) rfl rfl rfl (by decide) rfl hl.1 rfl (Nat.le_of_ble_eq_true rfl) ⟨Nat.zero_le _, Nat.zero_le _⟩ dX9_clear_25 (fun v I1 L1 H locs hR G => ?_)
  obtain ⟨hv, hI, hL⟩ := hR
  subst hv
  have G : GS E I L sg H locs := G.same hI hL
  refine W.eq (g2 := F0 mg 28 ls [.int (if ¬ d 85 = -1 ∧ ¬ ¬ plcM d 70 1 ≤ 0 then 1 else 0)]) rfl ?_
  refine s_if_ne_b (P := ¬ d 85 = -1 ∧ ¬ ¬ plcM d 70 1 ≤ 0) (tgt := 34) S dX9_clear_28 (by decide) (fun h => absurd h ht) (fun _ => ?_)
  refine lv_ldc (v := (-2000000002 : Int32)) S.1 S.2.1 S.2.2.2.1 (S.2.2.2.2 _ (List.mem_of_getElem? (i := 3) rfl)) dX9_clear_31 ?_
  refine s_iret (x := (-2000000002 : Int32)) S G hr hlk dX9_clear_33 ?_
  exact ⟨rfl, rfl, rfl⟩
set_option maxHeartbeats 4000000 in
set_option maxRecDepth 100000 in
theorem k_X9_clear_ok_1_2 (l : Launch) (E : Ev) {I : SI} {L : SL} (mx : Nat → Int32) (d : Nat → Int32) (wa : Nat → Int32) (lx : Nat → Int64) (lz : Nat → Int64) (kp : Nat) (e_mx : I (161) = mx) (e_d : I (162) = d) (e_wa : I (163) = wa) (e_lx : L (161) = lx) (e_lz : L (164) = lz) (hx : mx 2 = nI kp) (hkp : kp ≤ 4) (ht : ¬ d 88 = -1 ∧ ¬ ¬ plcM d 70 2 ≤ 0 ∧ ¬ d 5 / 2 < d 75) : CS l yX9_clear wsX9_clear ({ frames := 4, cells := 0, slots := 0, locals := 88 }) E [.ref (E.2.2.2 161), .int (1 : Int32), .int (2 : Int32)] I L (fun vv I' L' => vv = some (.int (ltdF (upd d 88 (-1)) 70)) ∧ I' = (up (up (up I (161) (upd mx 2 (nI (recK kp)))) (162) (upd d 88 (-1))) (163) (recW d wa kp)) ∧ L' = (upL L (164) (recS lz (lx 3) kp))) := by
  refine CS.of (cc := cX9_clear) (maxL := 3) (ret := (some .int)) (by decide) rfl (Nat.le_of_ble_eq_true rfl) ?_
  intro pg en sg mg below meth cg ls S hr hlk hX G hl
  have S : CallFix pg mg cg cX9_clear 3 sg _ wsX9_clear RX9 := S
  have hl : lv_has ls 3 [(0, .ref (E.2.2.2 161)), (1, .int (1 : Int32)), (2, .int (2 : Int32))] := hl
  refine lv_iload_n S.1 S.2.1 dX9_clear_0 rfl (lv_at hl 1 rfl) ?_
  refine s_callS (As := [.int (1 : Int32)]) (rest := []) S hX G (k_X9_isLoad l E (1 : Int32)) (va_cwS (bytes := cX9_isLoad) (maxL := 1) (ret := (some .boolean)) 1 S.2.2.2.2 gX9_clear_X9_isLoad rfl rfl rfl (by decide +kernel) ⟨Nat.le_of_ble_eq_true rfl, Nat.le_of_ble_eq_true rfl⟩) rfl hl.1 rfl (Nat.le_of_ble_eq_true rfl) ⟨Nat.zero_le _, Nat.zero_le _⟩ dX9_clear_1 (fun v I1 L1 H locs hR G => ?_)
  obtain ⟨hv, hI, hL⟩ := hR
  subst hv
  have G : GS E I L sg H locs := G.same hI hL
  refine W.eq (g2 := F0 mg 4 ls [.int (if ¬ (1 : Int32) < (0 : Int32) ∧ ¬ (1 : Int32) < (1 : Int32) then 1 else 0)]) rfl ?_
  refine s_if_eq_b (P := ¬ (1 : Int32) < (0 : Int32) ∧ ¬ (1 : Int32) < (1 : Int32)) (tgt := 19) S dX9_clear_4 (by decide) (fun h => absurd (by decide) h) (fun _ => ?_)
  refine lv_iload_n S.1 S.2.1 dX9_clear_7 rfl (lv_at hl 2 rfl) ?_
  refine lv_i2l (v := (2 : Int64)) S.1 S.2.1 dX9_clear_8 (by decide) ?_
  refine lv_lconst (v := (0 : Int64)) S.1 S.2.1 dX9_clear_9 (by decide) ?_
  refine lv_ldc2 (v := (2 : Int64)) S.1 S.2.1 S.2.2.2.1 (S.2.2.2.2 _ (List.mem_of_getElem? (i := 1) rfl)) dX9_clear_10 ?_
  refine s_callS (As := [.long (2 : Int64), .long (0 : Int64), .long (2 : Int64)]) (rest := []) S hX G (k_X9_in l E (2 : Int64) (0 : Int64) (2 : Int64)) (va_cwS (bytes := cX9_in) (maxL := 6) (ret := (some .boolean)) 3 S.2.2.2.2 gX9_clear_X9_in rfl rfl rfl (by decide +kernel) ⟨Nat.le_of_ble_eq_true rfl, Nat.le_of_ble_eq_true rfl⟩) rfl hl.1 rfl (Nat.le_of_ble_eq_true rfl) ⟨Nat.zero_le _, Nat.zero_le _⟩ dX9_clear_13 (fun v I1 L1 H locs hR G => ?_)
  obtain ⟨hv, hI, hL⟩ := hR
  subst hv
  have G : GS E I L sg H locs := G.same hI hL
  refine W.eq (g2 := F0 mg 16 ls [.int (if ¬ (2 : Int64) < (0 : Int64) ∧ ¬ (2 : Int64) < (2 : Int64) then 1 else 0)]) rfl ?_
  refine s_if_ne_b (P := ¬ (2 : Int64) < (0 : Int64) ∧ ¬ (2 : Int64) < (2 : Int64)) (tgt := 22) S dX9_clear_16 (by decide) (fun _ => ?_) (fun h => absurd (by decide) h)
  refine lv_aload_n S.1 S.2.1 dX9_clear_22 rfl (lv_at hl 0 rfl) ?_
  refine lv_iload_n S.1 S.2.1 dX9_clear_23 rfl (lv_at hl 1 rfl) ?_
  refine lv_iload_n S.1 S.2.1 dX9_clear_24 rfl (lv_at hl 2 rfl) ?_
  refine s_callV (C := RX9) (As := [.int (1 : Int32), .int (2 : Int32)]) (rest := []) (i := 161) (kd := 9) S hX G (k_X9_canClear_1_2 l E d e_d) (cwV (bytes := cX9_canClear) (maxL := 3) (ret := (some .boolean)) 2 S.2.2.2.2 gX9_clear_X9_canClear rfl rfl rfl (by decide +kernel) ⟨Nat.le_of_ble_eq_true rfl, Nat.le_of_ble_eq_true rfl⟩) (rfl : sh 161 = 9) rfl rfl rfl (by decide) rfl hl.1 rfl (Nat.le_of_ble_eq_true rfl) ⟨Nat.zero_le _, Nat.zero_le _⟩ dX9_clear_25 (fun v I1 L1 H locs hR G => ?_)
  obtain ⟨hv, hI, hL⟩ := hR
  subst hv
  have G : GS E I L sg H locs := G.same hI hL
  refine W.eq (g2 := F0 mg 28 ls [.int (if ¬ d 88 = -1 ∧ ¬ ¬ plcM d 70 2 ≤ 0 ∧ ¬ d 5 / 2 < d 75 then 1 else 0)]) rfl ?_
  refine s_if_ne_b (P := ¬ d 88 = -1 ∧ ¬ ¬ plcM d 70 2 ≤ 0 ∧ ¬ d 5 / 2 < d 75) (tgt := 34) S dX9_clear_28 (by decide) (fun _ => ?_) (fun h => absurd ht h)
  refine lv_aload_n S.1 S.2.1 dX9_clear_34 rfl (lv_at hl 0 rfl) ?_
  refine s_callV (C := RX9) (As := []) (rest := []) (i := 161) (kd := 9) S hX G (k_X9_records l E mx d wa lx lz kp e_mx e_d e_wa e_lx e_lz hx hkp) (cwV (bytes := cX9_records) (maxL := 2) (ret := none) 0 S.2.2.2.2 gX9_clear_X9_records rfl rfl rfl (by decide +kernel) ⟨Nat.le_of_ble_eq_true rfl, Nat.le_of_ble_eq_true rfl⟩) (rfl : sh 161 = 9) rfl rfl rfl (by decide) rfl hl.1 rfl (Nat.le_of_ble_eq_true rfl) ⟨Nat.zero_le _, Nat.zero_le _⟩ dX9_clear_35 (fun v I1 L1 H locs hR G => ?_)
  obtain ⟨hv, hI, hL⟩ := hR
  subst hv
  obtain ⟨r_1, er_1⟩ : ∃ r : Nat → Int32, r = (upd mx 2 (nI (recK kp))) := ⟨_, rfl⟩
  rw [← er_1] at hI
  obtain ⟨r_2, er_2⟩ : ∃ r : Nat → Int32, r = (recW d wa kp) := ⟨_, rfl⟩
  rw [← er_2] at hI
  obtain ⟨r_3, er_3⟩ : ∃ r : Nat → Int64, r = (recS lz (lx 3) kp) := ⟨_, rfl⟩
  rw [← er_3] at hL
  have G : GS E (up (up I 161 r_1) 163 r_2) (upL L 164 r_3) sg H locs := G.same hI hL
  refine W.eq (g2 := F0 mg 38 ls []) rfl ?_
  refine lv_aload_n S.1 S.2.1 dX9_clear_38 rfl (lv_at hl 0 rfl) ?_
  refine s_get S hX G (i := 161) (kd := 9) (a := r_1) (v := .ref (E.2.2.2 162)) (C := RX9) (T := TX9) (N := 13) 0 (rfl : sh 161 = 9) ((up_ne (by decide)).trans up_eq) rfl rfl (by decide) rfl (fun _ h => (List.mem_cons_of_mem _ (List.mem_append_right _ h))) (by decide) (List.mem_of_getElem? (i := 4) rfl) (fun _ h => h) dX9_clear_39 ?_
  refine lv_iload_n S.1 S.2.1 dX9_clear_42 rfl (lv_at hl 1 rfl) ?_
  refine s_callS (As := [.int (1 : Int32)]) (rest := [.ref (E.2.2.2 162)]) S hX G (k_X9_loadAt_1 l E) (va_cwS (bytes := cX9_loadAt) (maxL := 1) (ret := (some .int)) 1 S.2.2.2.2 gX9_clear_X9_loadAt rfl rfl rfl (by decide +kernel) ⟨Nat.le_of_ble_eq_true rfl, Nat.le_of_ble_eq_true rfl⟩) rfl hl.1 rfl (Nat.le_of_ble_eq_true rfl) ⟨Nat.zero_le _, Nat.zero_le _⟩ dX9_clear_43 (fun v I1 L1 H locs hR G => ?_)
  obtain ⟨hv, hI, hL⟩ := hR
  subst hv
  have G : GS E (up (up I 161 r_1) 163 r_2) (upL L 164 r_3) sg H locs := G.same hI hL
  refine W.eq (g2 := F0 mg 46 ls [.int (70 : Int32), .ref (E.2.2.2 162)]) rfl ?_
  refine lv_bipush (v := (12 : Int32)) S.1 S.2.1 dX9_clear_46 (by decide) ?_
  refine s_iadd (v := (82 : Int32)) S dX9_clear_48 (by decide) ?_
  refine lv_iconst (v := (3 : Int32)) S.1 S.2.1 dX9_clear_49 (by decide) ?_
  refine lv_iload_n S.1 S.2.1 dX9_clear_50 rfl (lv_at hl 2 rfl) ?_
  refine s_imul (v := (6 : Int32)) S dX9_clear_51 (by decide) ?_
  refine s_iadd (v := (88 : Int32)) S dX9_clear_52 (by decide) ?_
  refine lv_iconst (v := (-1 : Int32)) S.1 S.2.1 dX9_clear_53 (by decide) ?_
  refine s_iast S hX G (i := 162) (kd := 284) (n := 270) (jn := 88) (a := d) (I' := (up (up (up I 161 r_1) 163 r_2) 162 (upd d 88 (-1 : Int32)))) (rfl : sh 162 = 284) ((up_ne (by decide)).trans ((up_ne (by decide)).trans e_d)) (fun _ => rfl) (by decide) (by unfold vp_in; decide) (by decide) rfl dX9_clear_54 (fun H locs G => ?_)
  refine lv_aload_n S.1 S.2.1 dX9_clear_55 rfl (lv_at hl 0 rfl) ?_
  refine lv_iload_n S.1 S.2.1 dX9_clear_56 rfl (lv_at hl 1 rfl) ?_
  refine s_callV (C := RX9) (As := [.int (1 : Int32)]) (rest := []) (i := 161) (kd := 9) S hX G (k_X9_latched_1 l E (upd d 88 (-1 : Int32)) up_eq) (cwV (bytes := cX9_latched) (maxL := 4) (ret := (some .int)) 1 S.2.2.2.2 gX9_clear_X9_latched rfl rfl rfl (by decide +kernel) ⟨Nat.le_of_ble_eq_true rfl, Nat.le_of_ble_eq_true rfl⟩) (rfl : sh 161 = 9) rfl rfl rfl (by decide) rfl hl.1 rfl (Nat.le_of_ble_eq_true rfl) ⟨Nat.zero_le _, Nat.zero_le _⟩ dX9_clear_57 (fun v I1 L1 H locs hR G => ?_)
  obtain ⟨hv, hI, hL⟩ := hR
  subst hv
  have G : GS E (up (up (up I 161 r_1) 163 r_2) 162 (upd d 88 (-1 : Int32))) (upL L 164 r_3) sg H locs := G.same hI hL
  refine W.eq (g2 := F0 mg 60 ls [.int (ltdF (upd d 88 (-1 : Int32)) 70)]) rfl ?_
  refine lv_topi (fun y_4 ey_4 => ?_)
  refine s_iret (x := y_4) S G hr hlk dX9_clear_60 ?_
  exact ⟨(congrArg (fun q : Int32 => some (Value.int q)) (show y_4 = (ltdF (upd d 88 (-1)) 70) by subst ey_4 er_3 er_2 er_1; rfl)), (st_eq3 (Eq.trans ((up_ne (by decide)).trans ((up_ne (by decide)).trans up_eq)) (show r_1 = (upd mx 2 (nI (recK kp))) by subst ey_4 er_3 er_2 er_1; rfl)) (Eq.trans up_eq (show (upd d 88 (-1 : Int32)) = (upd d 88 (-1)) by subst ey_4 er_3 er_2 er_1; rfl)) (Eq.trans ((up_ne (by decide)).trans up_eq) (show r_2 = (recW d wa kp) by subst ey_4 er_3 er_2 er_1; rfl)) (fun _ g0 g1 g2 => ((up_ne g1).trans ((up_ne g2).trans (up_ne g0))))), (lt_eq1 (Eq.trans upL_eq (show r_3 = (recS lz (lx 3) kp) by subst ey_4 er_3 er_2 er_1; rfl)) (fun _ g0 => (upL_ne g0)))⟩
set_option maxHeartbeats 4000000 in
set_option maxRecDepth 100000 in
theorem k_X9_clear_np_1_2 (l : Launch) (E : Ev) {I : SI} {L : SL} (d : Nat → Int32) (e_d : I (162) = d) (ht : ¬ (¬ d 88 = -1 ∧ ¬ ¬ plcM d 70 2 ≤ 0 ∧ ¬ d 5 / 2 < d 75)) : CS l yX9_clear wsX9_clear ({ frames := 4, cells := 0, slots := 0, locals := 88 }) E [.ref (E.2.2.2 161), .int (1 : Int32), .int (2 : Int32)] I L (fun vv I' L' => vv = some (.int (-2000000002 : Int32)) ∧ I' = I ∧ L' = L) := by
  refine CS.of (cc := cX9_clear) (maxL := 3) (ret := (some .int)) (by decide) rfl (Nat.le_of_ble_eq_true rfl) ?_
  intro pg en sg mg below meth cg ls S hr hlk hX G hl
  have S : CallFix pg mg cg cX9_clear 3 sg _ wsX9_clear RX9 := S
  have hl : lv_has ls 3 [(0, .ref (E.2.2.2 161)), (1, .int (1 : Int32)), (2, .int (2 : Int32))] := hl
  refine lv_iload_n S.1 S.2.1 dX9_clear_0 rfl (lv_at hl 1 rfl) ?_
  refine s_callS (As := [.int (1 : Int32)]) (rest := []) S hX G (k_X9_isLoad l E (1 : Int32)) (va_cwS (bytes := cX9_isLoad) (maxL := 1) (ret := (some .boolean)) 1 S.2.2.2.2 gX9_clear_X9_isLoad rfl rfl rfl (by decide +kernel) ⟨Nat.le_of_ble_eq_true rfl, Nat.le_of_ble_eq_true rfl⟩) rfl hl.1 rfl (Nat.le_of_ble_eq_true rfl) ⟨Nat.zero_le _, Nat.zero_le _⟩ dX9_clear_1 (fun v I1 L1 H locs hR G => ?_)
  obtain ⟨hv, hI, hL⟩ := hR
  subst hv
  have G : GS E I L sg H locs := G.same hI hL
  refine W.eq (g2 := F0 mg 4 ls [.int (if ¬ (1 : Int32) < (0 : Int32) ∧ ¬ (1 : Int32) < (1 : Int32) then 1 else 0)]) rfl ?_
  refine s_if_eq_b (P := ¬ (1 : Int32) < (0 : Int32) ∧ ¬ (1 : Int32) < (1 : Int32)) (tgt := 19) S dX9_clear_4 (by decide) (fun h => absurd (by decide) h) (fun _ => ?_)
  refine lv_iload_n S.1 S.2.1 dX9_clear_7 rfl (lv_at hl 2 rfl) ?_
  refine lv_i2l (v := (2 : Int64)) S.1 S.2.1 dX9_clear_8 (by decide) ?_
  refine lv_lconst (v := (0 : Int64)) S.1 S.2.1 dX9_clear_9 (by decide) ?_
  refine lv_ldc2 (v := (2 : Int64)) S.1 S.2.1 S.2.2.2.1 (S.2.2.2.2 _ (List.mem_of_getElem? (i := 1) rfl)) dX9_clear_10 ?_
  refine s_callS (As := [.long (2 : Int64), .long (0 : Int64), .long (2 : Int64)]) (rest := []) S hX G (k_X9_in l E (2 : Int64) (0 : Int64) (2 : Int64)) (va_cwS (bytes := cX9_in) (maxL := 6) (ret := (some .boolean)) 3 S.2.2.2.2 gX9_clear_X9_in rfl rfl rfl (by decide +kernel) ⟨Nat.le_of_ble_eq_true rfl, Nat.le_of_ble_eq_true rfl⟩) rfl hl.1 rfl (Nat.le_of_ble_eq_true rfl) ⟨Nat.zero_le _, Nat.zero_le _⟩ dX9_clear_13 (fun v I1 L1 H locs hR G => ?_)
  obtain ⟨hv, hI, hL⟩ := hR
  subst hv
  have G : GS E I L sg H locs := G.same hI hL
  refine W.eq (g2 := F0 mg 16 ls [.int (if ¬ (2 : Int64) < (0 : Int64) ∧ ¬ (2 : Int64) < (2 : Int64) then 1 else 0)]) rfl ?_
  refine s_if_ne_b (P := ¬ (2 : Int64) < (0 : Int64) ∧ ¬ (2 : Int64) < (2 : Int64)) (tgt := 22) S dX9_clear_16 (by decide) (fun _ => ?_) (fun h => absurd (by decide) h)
  refine lv_aload_n S.1 S.2.1 dX9_clear_22 rfl (lv_at hl 0 rfl) ?_
  refine lv_iload_n S.1 S.2.1 dX9_clear_23 rfl (lv_at hl 1 rfl) ?_
  refine lv_iload_n S.1 S.2.1 dX9_clear_24 rfl (lv_at hl 2 rfl) ?_
  refine s_callV (C := RX9) (As := [.int (1 : Int32), .int (2 : Int32)]) (rest := []) (i := 161) (kd := 9) S hX G (k_X9_canClear_1_2 l E d e_d) (cwV (bytes := cX9_canClear) (maxL := 3) (ret := (some .boolean)) 2 S.2.2.2.2 gX9_clear_X9_canClear rfl rfl rfl (by decide +kernel) ⟨Nat.le_of_ble_eq_true rfl, Nat.le_of_ble_eq_true rfl⟩) (rfl : sh 161 = 9) rfl rfl rfl (by decide) rfl hl.1 rfl (Nat.le_of_ble_eq_true rfl) ⟨Nat.zero_le _, Nat.zero_le _⟩ dX9_clear_25 (fun v I1 L1 H locs hR G => ?_)
  obtain ⟨hv, hI, hL⟩ := hR
  subst hv
  have G : GS E I L sg H locs := G.same hI hL
  refine W.eq (g2 := F0 mg 28 ls [.int (if ¬ d 88 = -1 ∧ ¬ ¬ plcM d 70 2 ≤ 0 ∧ ¬ d 5 / 2 < d 75 then 1 else 0)]) rfl ?_
  refine s_if_ne_b (P := ¬ d 88 = -1 ∧ ¬ ¬ plcM d 70 2 ≤ 0 ∧ ¬ d 5 / 2 < d 75) (tgt := 34) S dX9_clear_28 (by decide) (fun h => absurd h ht) (fun _ => ?_)
  refine lv_ldc (v := (-2000000002 : Int32)) S.1 S.2.1 S.2.2.2.1 (S.2.2.2.2 _ (List.mem_of_getElem? (i := 3) rfl)) dX9_clear_31 ?_
  refine s_iret (x := (-2000000002 : Int32)) S G hr hlk dX9_clear_33 ?_
  exact ⟨rfl, rfl, rfl⟩
set_option maxHeartbeats 4000000 in
set_option maxRecDepth 100000 in
theorem k_X9_clear_no (l : Launch) (E : Ev) {I : SI} {L : SL} (load : Int32) (fault : Int32) (ht : ¬ (IN1 load ∧ IN2 fault)) : CS l yX9_clear wsX9_clear ({ frames := 2, cells := 0, slots := 0, locals := 45 }) E [.ref (E.2.2.2 161), .int load, .int fault] I L (fun vv I' L' => vv = some (.int (-2000000001 : Int32)) ∧ I' = I ∧ L' = L) := by
  refine CS.of (cc := cX9_clear) (maxL := 3) (ret := (some .int)) (by decide) rfl (Nat.le_of_ble_eq_true rfl) ?_
  intro pg en sg mg below meth cg ls S hr hlk hX G hl
  have S : CallFix pg mg cg cX9_clear 3 sg _ wsX9_clear RX9 := S
  have hl : lv_has ls 3 [(0, .ref (E.2.2.2 161)), (1, .int load), (2, .int fault)] := hl
  refine lv_iload_n S.1 S.2.1 dX9_clear_0 rfl (lv_at hl 1 rfl) ?_
  refine s_callS (As := [.int load]) (rest := []) S hX G (k_X9_isLoad l E load) (va_cwS (bytes := cX9_isLoad) (maxL := 1) (ret := (some .boolean)) 1 S.2.2.2.2 gX9_clear_X9_isLoad rfl rfl rfl (by decide +kernel) ⟨Nat.le_of_ble_eq_true rfl, Nat.le_of_ble_eq_true rfl⟩) rfl hl.1 rfl (Nat.le_of_ble_eq_true rfl) ⟨Nat.zero_le _, Nat.zero_le _⟩ dX9_clear_1 (fun v I1 L1 H locs hR G => ?_)
  obtain ⟨hv, hI, hL⟩ := hR
  subst hv
  have G : GS E I L sg H locs := G.same hI hL
  refine W.eq (g2 := F0 mg 4 ls [.int (if ¬ load < (0 : Int32) ∧ ¬ (1 : Int32) < load then 1 else 0)]) rfl ?_
  refine s_if_eq_b (P := ¬ load < (0 : Int32) ∧ ¬ (1 : Int32) < load) (tgt := 19) S dX9_clear_4 (by decide) (fun c_1 => ?_) (fun c_1 => ?_)
  · refine lv_ldc (v := (-2000000001 : Int32)) S.1 S.2.1 S.2.2.2.1 (S.2.2.2.2 _ (List.mem_of_getElem? (i := 2) rfl)) dX9_clear_19 ?_
    refine s_iret (x := (-2000000001 : Int32)) S G hr hlk dX9_clear_21 ?_
    exact ⟨rfl, rfl, rfl⟩
  · refine lv_iload_n S.1 S.2.1 dX9_clear_7 rfl (lv_at hl 2 rfl) ?_
    refine lv_i2l (v := (Int32.toInt64 fault)) S.1 S.2.1 dX9_clear_8 rfl ?_
    refine lv_lconst (v := (0 : Int64)) S.1 S.2.1 dX9_clear_9 (by decide) ?_
    refine lv_ldc2 (v := (2 : Int64)) S.1 S.2.1 S.2.2.2.1 (S.2.2.2.2 _ (List.mem_of_getElem? (i := 1) rfl)) dX9_clear_10 ?_
    refine s_callS (As := [.long (Int32.toInt64 fault), .long (0 : Int64), .long (2 : Int64)]) (rest := []) S hX G (k_X9_in l E (Int32.toInt64 fault) (0 : Int64) (2 : Int64)) (va_cwS (bytes := cX9_in) (maxL := 6) (ret := (some .boolean)) 3 S.2.2.2.2 gX9_clear_X9_in rfl rfl rfl (by decide +kernel) ⟨Nat.le_of_ble_eq_true rfl, Nat.le_of_ble_eq_true rfl⟩) rfl hl.1 rfl (Nat.le_of_ble_eq_true rfl) ⟨Nat.zero_le _, Nat.zero_le _⟩ dX9_clear_13 (fun v I1 L1 H locs hR G => ?_)
    obtain ⟨hv, hI, hL⟩ := hR
    subst hv
    have G : GS E I L sg H locs := G.same hI hL
    refine W.eq (g2 := F0 mg 16 ls [.int (if ¬ (Int32.toInt64 fault) < (0 : Int64) ∧ ¬ (2 : Int64) < (Int32.toInt64 fault) then 1 else 0)]) rfl ?_
    refine s_if_ne_b (P := ¬ (Int32.toInt64 fault) < (0 : Int64) ∧ ¬ (2 : Int64) < (Int32.toInt64 fault)) (tgt := 22) S dX9_clear_16 (by decide) (fun c_2 => ?_) (fun c_2 => ?_)
    · exact absurd (And.intro c_1 (out64 (a := 0) (b := 2) c_2 (by decide) (by decide))) ht
    · refine lv_ldc (v := (-2000000001 : Int32)) S.1 S.2.1 S.2.2.2.1 (S.2.2.2.2 _ (List.mem_of_getElem? (i := 2) rfl)) dX9_clear_19 ?_
      refine s_iret (x := (-2000000001 : Int32)) S G hr hlk dX9_clear_21 ?_
      exact ⟨rfl, rfl, rfl⟩
