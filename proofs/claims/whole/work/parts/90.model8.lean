abbrev TK6 (what value : Int32) : Prop := (¬ what < 0 ∧ ¬ (6 : Int32) ≤ what) ∧ (¬ value < e_tab 0 what.toNatClampNeg ∧ ¬ e_tab 1 what.toNatClampNeg < value)
abbrev TK4 (what value : Int32) : Prop := (¬ what < 0 ∧ ¬ (4 : Int32) ≤ what) ∧ (¬ value < e_tab 0 (6 + what.toNatClampNeg) ∧ ¬ e_tab 1 (6 + what.toNatClampNeg) < value)
abbrev IN1 (x : Int32) : Prop := ¬ x < (0 : Int32) ∧ ¬ (1 : Int32) < x
abbrev IN2 (x : Int32) : Prop := ¬ x < (0 : Int32) ∧ ¬ (2 : Int32) < x
abbrev IN3 (x : Int32) : Prop := ¬ x < (0 : Int32) ∧ ¬ (3 : Int32) < x
abbrev INR (x a b : Int32) : Prop := ¬ x < a ∧ ¬ b < x
theorem in_k {x : Int32} {n : Nat} (hn : n < 2 ^ 31) (h : ¬ x < 0 ∧ ¬ nI n ≤ x) : x.toInt = (x.toInt.toNat : Int) ∧ x.toInt.toNat < n := by
  have h2 : ¬ x.toInt < 0 := fun q => h.1 (Int32.lt_iff_toInt_lt.mpr q)
  have h3 : x.toInt < (nI n).toInt := Int32.lt_iff_toInt_lt.mp (Int32.not_le.mp h.2)
  rw [nI_toInt hn] at h3
  omega
theorem in_out {x : Int32} {n : Nat} (hn : n < 2 ^ 31) : (¬ x < 0 ∧ ¬ nI n ≤ x) ∨ (x.toInt < 0 ∨ (n : Int) - 1 < x.toInt) := by
  rcases Classical.em (¬ x < 0 ∧ ¬ nI n ≤ x) with h | h
  · exact Or.inl h
  · refine Or.inr ?_
    rcases Classical.em (x < 0) with q | q
    · exact Or.inl (Int32.lt_iff_toInt_lt.mp q)
    · have q2 : nI n ≤ x := Classical.not_not.mp (fun q3 => h ⟨q, q3⟩)
      have q4 := Int32.le_iff_toInt_le.mp q2
      rw [nI_toInt hn] at q4
      exact Or.inr (by omega)
theorem out_n {x : Int32} {n : Nat} (hn : n < 2 ^ 31) (h : x.toInt < 0 ∨ (n : Int) - 1 < x.toInt) : ¬ (¬ x < 0 ∧ ¬ nI n ≤ x) := by
  intro q
  have := in_k hn q
  omega
theorem in_lt6 {x : Int32} (h : ¬ x < 0 ∧ ¬ (6 : Int32) ≤ x) : x = 0 ∨ x = 1 ∨ x = 2 ∨ x = 3 ∨ x = 4 ∨ x = 5 := by
  obtain ⟨k, hk, rfl⟩ := i32_in (n := 6) h.1 h.2 (by decide)
  rcases (show k = 0 ∨ k = 1 ∨ k = 2 ∨ k = 3 ∨ k = 4 ∨ k = 5 by omega) with rfl | rfl | rfl | rfl | rfl | rfl
  · exact Or.inl rfl
  · exact Or.inr (Or.inl rfl)
  · exact Or.inr (Or.inr (Or.inl rfl))
  · exact Or.inr (Or.inr (Or.inr (Or.inl rfl)))
  · exact Or.inr (Or.inr (Or.inr (Or.inr (Or.inl rfl))))
  · exact Or.inr (Or.inr (Or.inr (Or.inr (Or.inr rfl))))
theorem ifc {P Q : Prop} [Decidable P] [Decidable Q] (h : P ↔ Q) : (if P then (1 : Int32) else 0) = if Q then 1 else 0 := by
  by_cases q : Q
  · rw [if_pos q, if_pos (h.mpr q)]
  · rw [if_neg q, if_neg (fun p => q (h.mp p))]
theorem i64_in (v a b : Int32) : (¬ Int32.toInt64 v < Int32.toInt64 a ∧ ¬ Int32.toInt64 b < Int32.toInt64 v) ↔ (¬ v < a ∧ ¬ b < v) := by
  rw [i64_lt, i64_lt]
theorem tk_of {P Q : Prop} (hp : P) : Q ↔ P ∧ Q := ⟨fun q => ⟨hp, q⟩, fun q => q.2⟩
def pl1M (d : Nat → Int32) (L f g : Nat) : Int32 := if ¬ d (L + 12 + 3 * g) = -1 ∧ d (L + 14 + 3 * g) < d (L + 14 + 3 * f) then 1 else 0
def plcM (d : Nat → Int32) (L f : Nat) : Int32 := 0 + pl1M d L f 0 + pl1M d L f 1 + pl1M d L f 2
theorem s_if_eq_b2 {p : Program} {l : Launch} {e : Env} {R : Room} {s : State} {m : MethodId} {args : Array Value} {below : List Frame} {meth : Method} {c : Code} {H : Heap} {locs : List Loc} {cells slots : Nat} {Q : State → Prop} : True := trivial
set_option maxHeartbeats 4000000 in
set_option maxRecDepth 100000 in
theorem k_X9_isSetting (l : Launch) (E : Ev) {I : SI} {L : SL} (what : Int32) (value : Int32) : CS l yX9_isSetting wsX9_isSetting ({ frames := 1, cells := 0, slots := 0, locals := 25 }) E [.int what, .int value] I L (fun vv I' L' => vv = some (.int (if TK6 what value then 1 else 0)) ∧ I' = I ∧ L' = L) := by
  refine CS.of (cc := cX9_isSetting) (maxL := 2) (ret := (some .boolean)) (by decide) rfl (Nat.le_of_ble_eq_true rfl) ?_
  intro pg en sg mg below meth cg ls S hr hlk hX G hl
  have S : CallFix pg mg cg cX9_isSetting 2 sg _ wsX9_isSetting RX9 := S
  have hl : lv_has ls 2 [(0, .int what), (1, .int value)] := hl
  refine lv_iload_n S.1 S.2.1 dX9_isSetting_0 rfl (lv_at hl 0 rfl) ?_
  rcases in_out (x := what) (n := 6) (by decide) with hin | hout
  · rcases in_lt6 hin with rfl | rfl | rfl | rfl | rfl | rfl
    · refine lv_tableIn (off := 39) (tgt := 40) S.1 S.2.1 dX9_isSetting_1 (by decide) (by decide) (by decide) (by decide) ?_
      refine lv_iload_n S.1 S.2.1 dX9_isSetting_40 rfl (lv_at hl 1 rfl) ?_
      refine lv_i2l (v := (Int32.toInt64 value)) S.1 S.2.1 dX9_isSetting_41 rfl ?_
      refine lv_lconst (v := (0 : Int64)) S.1 S.2.1 dX9_isSetting_42 (by decide) ?_
      refine lv_ldc2 (v := (20 : Int64)) S.1 S.2.1 S.2.2.2.1 (S.2.2.2.2 _ (List.mem_of_getElem? (i := 1) rfl)) dX9_isSetting_43 ?_
      refine s_callS (As := [.long (Int32.toInt64 value), .long (0 : Int64), .long (20 : Int64)]) (rest := []) S hX G (k_X9_in l E (Int32.toInt64 value) (0 : Int64) (20 : Int64)) (va_cwS (bytes := cX9_in) (maxL := 6) (ret := (some .boolean)) 3 S.2.2.2.2 gX9_isSetting_X9_in rfl rfl rfl (by decide +kernel) ⟨Nat.le_of_ble_eq_true rfl, Nat.le_of_ble_eq_true rfl⟩) rfl hl.1 rfl (Nat.le_of_ble_eq_true rfl) ⟨Nat.zero_le _, Nat.zero_le _⟩ dX9_isSetting_46 (fun v I1 L1 H locs hR G => ?_)
      obtain ⟨hv, hI, hL⟩ := hR
      subst hv
      have G : GS E I L sg H locs := G.same hI hL
      refine W.eq (g2 := F0 mg 49 ls [.int (if ¬ (Int32.toInt64 value) < (0 : Int64) ∧ ¬ (20 : Int64) < (Int32.toInt64 value) then 1 else 0)]) rfl ?_
      refine s_zret (x := (if ¬ (Int32.toInt64 value) < (0 : Int64) ∧ ¬ (20 : Int64) < (Int32.toInt64 value) then 1 else 0)) S G hr hlk dX9_isSetting_49 isb_ite ?_
      exact ⟨(congrArg (fun q : Int32 => some (Value.int q)) (show (if ¬ (Int32.toInt64 value) < (0 : Int64) ∧ ¬ (20 : Int64) < (Int32.toInt64 value) then 1 else 0) = (if TK6 (0 : Int32) value then 1 else 0) by rw [(show (0 : Int64) = Int32.toInt64 0 from by decide), (show (20 : Int64) = Int32.toInt64 20 from by decide)]; exact ifc ((i64_in value 0 20).trans (tk_of (by decide))))), rfl, rfl⟩
    · refine lv_tableIn (off := 49) (tgt := 50) S.1 S.2.1 dX9_isSetting_1 (by decide) (by decide) (by decide) (by decide) ?_
      refine lv_iload_n S.1 S.2.1 dX9_isSetting_50 rfl (lv_at hl 1 rfl) ?_
      refine lv_i2l (v := (Int32.toInt64 value)) S.1 S.2.1 dX9_isSetting_51 rfl ?_
      refine lv_lconst (v := (0 : Int64)) S.1 S.2.1 dX9_isSetting_52 (by decide) ?_
      refine lv_ldc2 (v := (50 : Int64)) S.1 S.2.1 S.2.2.2.1 (S.2.2.2.2 _ (List.mem_of_getElem? (i := 2) rfl)) dX9_isSetting_53 ?_
      refine s_callS (As := [.long (Int32.toInt64 value), .long (0 : Int64), .long (50 : Int64)]) (rest := []) S hX G (k_X9_in l E (Int32.toInt64 value) (0 : Int64) (50 : Int64)) (va_cwS (bytes := cX9_in) (maxL := 6) (ret := (some .boolean)) 3 S.2.2.2.2 gX9_isSetting_X9_in rfl rfl rfl (by decide +kernel) ⟨Nat.le_of_ble_eq_true rfl, Nat.le_of_ble_eq_true rfl⟩) rfl hl.1 rfl (Nat.le_of_ble_eq_true rfl) ⟨Nat.zero_le _, Nat.zero_le _⟩ dX9_isSetting_56 (fun v I1 L1 H locs hR G => ?_)
      obtain ⟨hv, hI, hL⟩ := hR
      subst hv
      have G : GS E I L sg H locs := G.same hI hL
      refine W.eq (g2 := F0 mg 59 ls [.int (if ¬ (Int32.toInt64 value) < (0 : Int64) ∧ ¬ (50 : Int64) < (Int32.toInt64 value) then 1 else 0)]) rfl ?_
      refine s_zret (x := (if ¬ (Int32.toInt64 value) < (0 : Int64) ∧ ¬ (50 : Int64) < (Int32.toInt64 value) then 1 else 0)) S G hr hlk dX9_isSetting_59 isb_ite ?_
      exact ⟨(congrArg (fun q : Int32 => some (Value.int q)) (show (if ¬ (Int32.toInt64 value) < (0 : Int64) ∧ ¬ (50 : Int64) < (Int32.toInt64 value) then 1 else 0) = (if TK6 (1 : Int32) value then 1 else 0) by rw [(show (0 : Int64) = Int32.toInt64 0 from by decide), (show (50 : Int64) = Int32.toInt64 50 from by decide)]; exact ifc ((i64_in value 0 50).trans (tk_of (by decide))))), rfl, rfl⟩
    · refine lv_tableIn (off := 59) (tgt := 60) S.1 S.2.1 dX9_isSetting_1 (by decide) (by decide) (by decide) (by decide) ?_
      refine lv_iload_n S.1 S.2.1 dX9_isSetting_60 rfl (lv_at hl 1 rfl) ?_
      refine lv_i2l (v := (Int32.toInt64 value)) S.1 S.2.1 dX9_isSetting_61 rfl ?_
      refine lv_lconst (v := (1 : Int64)) S.1 S.2.1 dX9_isSetting_62 (by decide) ?_
      refine lv_ldc2 (v := (1000000 : Int64)) S.1 S.2.1 S.2.2.2.1 (S.2.2.2.2 _ (List.mem_of_getElem? (i := 3) rfl)) dX9_isSetting_63 ?_
      refine s_callS (As := [.long (Int32.toInt64 value), .long (1 : Int64), .long (1000000 : Int64)]) (rest := []) S hX G (k_X9_in l E (Int32.toInt64 value) (1 : Int64) (1000000 : Int64)) (va_cwS (bytes := cX9_in) (maxL := 6) (ret := (some .boolean)) 3 S.2.2.2.2 gX9_isSetting_X9_in rfl rfl rfl (by decide +kernel) ⟨Nat.le_of_ble_eq_true rfl, Nat.le_of_ble_eq_true rfl⟩) rfl hl.1 rfl (Nat.le_of_ble_eq_true rfl) ⟨Nat.zero_le _, Nat.zero_le _⟩ dX9_isSetting_66 (fun v I1 L1 H locs hR G => ?_)
      obtain ⟨hv, hI, hL⟩ := hR
      subst hv
      have G : GS E I L sg H locs := G.same hI hL
      refine W.eq (g2 := F0 mg 69 ls [.int (if ¬ (Int32.toInt64 value) < (1 : Int64) ∧ ¬ (1000000 : Int64) < (Int32.toInt64 value) then 1 else 0)]) rfl ?_
      refine s_zret (x := (if ¬ (Int32.toInt64 value) < (1 : Int64) ∧ ¬ (1000000 : Int64) < (Int32.toInt64 value) then 1 else 0)) S G hr hlk dX9_isSetting_69 isb_ite ?_
      exact ⟨(congrArg (fun q : Int32 => some (Value.int q)) (show (if ¬ (Int32.toInt64 value) < (1 : Int64) ∧ ¬ (1000000 : Int64) < (Int32.toInt64 value) then 1 else 0) = (if TK6 (2 : Int32) value then 1 else 0) by rw [(show (1 : Int64) = Int32.toInt64 1 from by decide), (show (1000000 : Int64) = Int32.toInt64 1000000 from by decide)]; exact ifc ((i64_in value 1 1000000).trans (tk_of (by decide))))), rfl, rfl⟩
    · refine lv_tableIn (off := 69) (tgt := 70) S.1 S.2.1 dX9_isSetting_1 (by decide) (by decide) (by decide) (by decide) ?_
      refine lv_iload_n S.1 S.2.1 dX9_isSetting_70 rfl (lv_at hl 1 rfl) ?_
      refine lv_i2l (v := (Int32.toInt64 value)) S.1 S.2.1 dX9_isSetting_71 rfl ?_
      refine lv_ldc2 (v := (2 : Int64)) S.1 S.2.1 S.2.2.2.1 (S.2.2.2.2 _ (List.mem_of_getElem? (i := 4) rfl)) dX9_isSetting_72 ?_
      refine lv_ldc2 (v := (100 : Int64)) S.1 S.2.1 S.2.2.2.1 (S.2.2.2.2 _ (List.mem_of_getElem? (i := 5) rfl)) dX9_isSetting_75 ?_
      refine s_callS (As := [.long (Int32.toInt64 value), .long (2 : Int64), .long (100 : Int64)]) (rest := []) S hX G (k_X9_in l E (Int32.toInt64 value) (2 : Int64) (100 : Int64)) (va_cwS (bytes := cX9_in) (maxL := 6) (ret := (some .boolean)) 3 S.2.2.2.2 gX9_isSetting_X9_in rfl rfl rfl (by decide +kernel) ⟨Nat.le_of_ble_eq_true rfl, Nat.le_of_ble_eq_true rfl⟩) rfl hl.1 rfl (Nat.le_of_ble_eq_true rfl) ⟨Nat.zero_le _, Nat.zero_le _⟩ dX9_isSetting_78 (fun v I1 L1 H locs hR G => ?_)
      obtain ⟨hv, hI, hL⟩ := hR
      subst hv
      have G : GS E I L sg H locs := G.same hI hL
      refine W.eq (g2 := F0 mg 81 ls [.int (if ¬ (Int32.toInt64 value) < (2 : Int64) ∧ ¬ (100 : Int64) < (Int32.toInt64 value) then 1 else 0)]) rfl ?_
      refine s_zret (x := (if ¬ (Int32.toInt64 value) < (2 : Int64) ∧ ¬ (100 : Int64) < (Int32.toInt64 value) then 1 else 0)) S G hr hlk dX9_isSetting_81 isb_ite ?_
      exact ⟨(congrArg (fun q : Int32 => some (Value.int q)) (show (if ¬ (Int32.toInt64 value) < (2 : Int64) ∧ ¬ (100 : Int64) < (Int32.toInt64 value) then 1 else 0) = (if TK6 (3 : Int32) value then 1 else 0) by rw [(show (2 : Int64) = Int32.toInt64 2 from by decide), (show (100 : Int64) = Int32.toInt64 100 from by decide)]; exact ifc ((i64_in value 2 100).trans (tk_of (by decide))))), rfl, rfl⟩
    · refine lv_tableIn (off := 81) (tgt := 82) S.1 S.2.1 dX9_isSetting_1 (by decide) (by decide) (by decide) (by decide) ?_
      refine lv_iload_n S.1 S.2.1 dX9_isSetting_82 rfl (lv_at hl 1 rfl) ?_
      refine lv_i2l (v := (Int32.toInt64 value)) S.1 S.2.1 dX9_isSetting_83 rfl ?_
      refine lv_lconst (v := (1 : Int64)) S.1 S.2.1 dX9_isSetting_84 (by decide) ?_
      refine lv_ldc2 (v := (1000000000 : Int64)) S.1 S.2.1 S.2.2.2.1 (S.2.2.2.2 _ (List.mem_of_getElem? (i := 6) rfl)) dX9_isSetting_85 ?_
      refine s_callS (As := [.long (Int32.toInt64 value), .long (1 : Int64), .long (1000000000 : Int64)]) (rest := []) S hX G (k_X9_in l E (Int32.toInt64 value) (1 : Int64) (1000000000 : Int64)) (va_cwS (bytes := cX9_in) (maxL := 6) (ret := (some .boolean)) 3 S.2.2.2.2 gX9_isSetting_X9_in rfl rfl rfl (by decide +kernel) ⟨Nat.le_of_ble_eq_true rfl, Nat.le_of_ble_eq_true rfl⟩) rfl hl.1 rfl (Nat.le_of_ble_eq_true rfl) ⟨Nat.zero_le _, Nat.zero_le _⟩ dX9_isSetting_88 (fun v I1 L1 H locs hR G => ?_)
      obtain ⟨hv, hI, hL⟩ := hR
      subst hv
      have G : GS E I L sg H locs := G.same hI hL
      refine W.eq (g2 := F0 mg 91 ls [.int (if ¬ (Int32.toInt64 value) < (1 : Int64) ∧ ¬ (1000000000 : Int64) < (Int32.toInt64 value) then 1 else 0)]) rfl ?_
      refine s_zret (x := (if ¬ (Int32.toInt64 value) < (1 : Int64) ∧ ¬ (1000000000 : Int64) < (Int32.toInt64 value) then 1 else 0)) S G hr hlk dX9_isSetting_91 isb_ite ?_
      exact ⟨(congrArg (fun q : Int32 => some (Value.int q)) (show (if ¬ (Int32.toInt64 value) < (1 : Int64) ∧ ¬ (1000000000 : Int64) < (Int32.toInt64 value) then 1 else 0) = (if TK6 (4 : Int32) value then 1 else 0) by rw [(show (1 : Int64) = Int32.toInt64 1 from by decide), (show (1000000000 : Int64) = Int32.toInt64 1000000000 from by decide)]; exact ifc ((i64_in value 1 1000000000).trans (tk_of (by decide))))), rfl, rfl⟩
    · refine lv_tableIn (off := 91) (tgt := 92) S.1 S.2.1 dX9_isSetting_1 (by decide) (by decide) (by decide) (by decide) ?_
      refine lv_iload_n S.1 S.2.1 dX9_isSetting_92 rfl (lv_at hl 1 rfl) ?_
      refine lv_i2l (v := (Int32.toInt64 value)) S.1 S.2.1 dX9_isSetting_93 rfl ?_
      refine lv_lconst (v := (0 : Int64)) S.1 S.2.1 dX9_isSetting_94 (by decide) ?_
      refine lv_ldc2 (v := (1000000 : Int64)) S.1 S.2.1 S.2.2.2.1 (S.2.2.2.2 _ (List.mem_of_getElem? (i := 3) rfl)) dX9_isSetting_95 ?_
      refine s_callS (As := [.long (Int32.toInt64 value), .long (0 : Int64), .long (1000000 : Int64)]) (rest := []) S hX G (k_X9_in l E (Int32.toInt64 value) (0 : Int64) (1000000 : Int64)) (va_cwS (bytes := cX9_in) (maxL := 6) (ret := (some .boolean)) 3 S.2.2.2.2 gX9_isSetting_X9_in rfl rfl rfl (by decide +kernel) ⟨Nat.le_of_ble_eq_true rfl, Nat.le_of_ble_eq_true rfl⟩) rfl hl.1 rfl (Nat.le_of_ble_eq_true rfl) ⟨Nat.zero_le _, Nat.zero_le _⟩ dX9_isSetting_98 (fun v I1 L1 H locs hR G => ?_)
      obtain ⟨hv, hI, hL⟩ := hR
      subst hv
      have G : GS E I L sg H locs := G.same hI hL
      refine W.eq (g2 := F0 mg 101 ls [.int (if ¬ (Int32.toInt64 value) < (0 : Int64) ∧ ¬ (1000000 : Int64) < (Int32.toInt64 value) then 1 else 0)]) rfl ?_
      refine s_zret (x := (if ¬ (Int32.toInt64 value) < (0 : Int64) ∧ ¬ (1000000 : Int64) < (Int32.toInt64 value) then 1 else 0)) S G hr hlk dX9_isSetting_101 isb_ite ?_
      exact ⟨(congrArg (fun q : Int32 => some (Value.int q)) (show (if ¬ (Int32.toInt64 value) < (0 : Int64) ∧ ¬ (1000000 : Int64) < (Int32.toInt64 value) then 1 else 0) = (if TK6 (5 : Int32) value then 1 else 0) by rw [(show (0 : Int64) = Int32.toInt64 0 from by decide), (show (1000000 : Int64) = Int32.toInt64 1000000 from by decide)]; exact ifc ((i64_in value 0 1000000).trans (tk_of (by decide))))), rfl, rfl⟩
  · refine lv_tableOut (tgt := 102) S.1 S.2.1 dX9_isSetting_1 hout (by decide) ?_
    refine lv_iconst (v := (0 : Int32)) S.1 S.2.1 dX9_isSetting_102 (by decide) ?_
    refine s_zret (x := (0 : Int32)) S G hr hlk dX9_isSetting_103 (Or.inl rfl) ?_
    exact ⟨(congrArg (fun q : Int32 => some (Value.int q)) (show (0 : Int32) = (if TK6 what value then 1 else 0) by exact (if_neg (fun q => out_n (n := 6) (by decide) hout q.1)).symm)), rfl, rfl⟩
set_option maxHeartbeats 4000000 in
set_option maxRecDepth 100000 in
theorem k_X9_isOfLoad (l : Launch) (E : Ev) {I : SI} {L : SL} (what : Int32) (value : Int32) : CS l yX9_isOfLoad wsX9_isOfLoad ({ frames := 1, cells := 0, slots := 0, locals := 25 }) E [.int what, .int value] I L (fun vv I' L' => vv = some (.int (if TK4 what value then 1 else 0)) ∧ I' = I ∧ L' = L) := by
  refine CS.of (cc := cX9_isOfLoad) (maxL := 2) (ret := (some .boolean)) (by decide) rfl (Nat.le_of_ble_eq_true rfl) ?_
  intro pg en sg mg below meth cg ls S hr hlk hX G hl
  have S : CallFix pg mg cg cX9_isOfLoad 2 sg _ wsX9_isOfLoad RX9 := S
  have hl : lv_has ls 2 [(0, .int what), (1, .int value)] := hl
  refine lv_iload_n S.1 S.2.1 dX9_isOfLoad_0 rfl (lv_at hl 0 rfl) ?_
  rcases in_out (x := what) (n := 4) (by decide) with hin | hout
  · rcases in_lt4 hin with rfl | rfl | rfl | rfl
    · refine lv_tableIn (off := 31) (tgt := 32) S.1 S.2.1 dX9_isOfLoad_1 (by decide) (by decide) (by decide) (by decide) ?_
      refine lv_iload_n S.1 S.2.1 dX9_isOfLoad_32 rfl (lv_at hl 1 rfl) ?_
      refine lv_i2l (v := (Int32.toInt64 value)) S.1 S.2.1 dX9_isOfLoad_33 rfl ?_
      refine lv_lconst (v := (1 : Int64)) S.1 S.2.1 dX9_isOfLoad_34 (by decide) ?_
      refine lv_ldc2 (v := (1000 : Int64)) S.1 S.2.1 S.2.2.2.1 (S.2.2.2.2 _ (List.mem_of_getElem? (i := 1) rfl)) dX9_isOfLoad_35 ?_
      refine s_callS (As := [.long (Int32.toInt64 value), .long (1 : Int64), .long (1000 : Int64)]) (rest := []) S hX G (k_X9_in l E (Int32.toInt64 value) (1 : Int64) (1000 : Int64)) (va_cwS (bytes := cX9_in) (maxL := 6) (ret := (some .boolean)) 3 S.2.2.2.2 gX9_isOfLoad_X9_in rfl rfl rfl (by decide +kernel) ⟨Nat.le_of_ble_eq_true rfl, Nat.le_of_ble_eq_true rfl⟩) rfl hl.1 rfl (Nat.le_of_ble_eq_true rfl) ⟨Nat.zero_le _, Nat.zero_le _⟩ dX9_isOfLoad_38 (fun v I1 L1 H locs hR G => ?_)
      obtain ⟨hv, hI, hL⟩ := hR
      subst hv
      have G : GS E I L sg H locs := G.same hI hL
      refine W.eq (g2 := F0 mg 41 ls [.int (if ¬ (Int32.toInt64 value) < (1 : Int64) ∧ ¬ (1000 : Int64) < (Int32.toInt64 value) then 1 else 0)]) rfl ?_
      refine s_zret (x := (if ¬ (Int32.toInt64 value) < (1 : Int64) ∧ ¬ (1000 : Int64) < (Int32.toInt64 value) then 1 else 0)) S G hr hlk dX9_isOfLoad_41 isb_ite ?_
      exact ⟨(congrArg (fun q : Int32 => some (Value.int q)) (show (if ¬ (Int32.toInt64 value) < (1 : Int64) ∧ ¬ (1000 : Int64) < (Int32.toInt64 value) then 1 else 0) = (if TK4 (0 : Int32) value then 1 else 0) by rw [(show (1 : Int64) = Int32.toInt64 1 from by decide), (show (1000 : Int64) = Int32.toInt64 1000 from by decide)]; exact ifc ((i64_in value 1 1000).trans (tk_of (by decide))))), rfl, rfl⟩
    · refine lv_tableIn (off := 41) (tgt := 42) S.1 S.2.1 dX9_isOfLoad_1 (by decide) (by decide) (by decide) (by decide) ?_
      refine lv_iload_n S.1 S.2.1 dX9_isOfLoad_42 rfl (lv_at hl 1 rfl) ?_
      refine lv_i2l (v := (Int32.toInt64 value)) S.1 S.2.1 dX9_isOfLoad_43 rfl ?_
      refine lv_lconst (v := (0 : Int64)) S.1 S.2.1 dX9_isOfLoad_44 (by decide) ?_
      refine lv_ldc2 (v := (100 : Int64)) S.1 S.2.1 S.2.2.2.1 (S.2.2.2.2 _ (List.mem_of_getElem? (i := 2) rfl)) dX9_isOfLoad_45 ?_
      refine s_callS (As := [.long (Int32.toInt64 value), .long (0 : Int64), .long (100 : Int64)]) (rest := []) S hX G (k_X9_in l E (Int32.toInt64 value) (0 : Int64) (100 : Int64)) (va_cwS (bytes := cX9_in) (maxL := 6) (ret := (some .boolean)) 3 S.2.2.2.2 gX9_isOfLoad_X9_in rfl rfl rfl (by decide +kernel) ⟨Nat.le_of_ble_eq_true rfl, Nat.le_of_ble_eq_true rfl⟩) rfl hl.1 rfl (Nat.le_of_ble_eq_true rfl) ⟨Nat.zero_le _, Nat.zero_le _⟩ dX9_isOfLoad_48 (fun v I1 L1 H locs hR G => ?_)
      obtain ⟨hv, hI, hL⟩ := hR
      subst hv
      have G : GS E I L sg H locs := G.same hI hL
      refine W.eq (g2 := F0 mg 51 ls [.int (if ¬ (Int32.toInt64 value) < (0 : Int64) ∧ ¬ (100 : Int64) < (Int32.toInt64 value) then 1 else 0)]) rfl ?_
      refine s_zret (x := (if ¬ (Int32.toInt64 value) < (0 : Int64) ∧ ¬ (100 : Int64) < (Int32.toInt64 value) then 1 else 0)) S G hr hlk dX9_isOfLoad_51 isb_ite ?_
      exact ⟨(congrArg (fun q : Int32 => some (Value.int q)) (show (if ¬ (Int32.toInt64 value) < (0 : Int64) ∧ ¬ (100 : Int64) < (Int32.toInt64 value) then 1 else 0) = (if TK4 (1 : Int32) value then 1 else 0) by rw [(show (0 : Int64) = Int32.toInt64 0 from by decide), (show (100 : Int64) = Int32.toInt64 100 from by decide)]; exact ifc ((i64_in value 0 100).trans (tk_of (by decide))))), rfl, rfl⟩
    · refine lv_tableIn (off := 51) (tgt := 52) S.1 S.2.1 dX9_isOfLoad_1 (by decide) (by decide) (by decide) (by decide) ?_
      refine lv_iload_n S.1 S.2.1 dX9_isOfLoad_52 rfl (lv_at hl 1 rfl) ?_
      refine lv_i2l (v := (Int32.toInt64 value)) S.1 S.2.1 dX9_isOfLoad_53 rfl ?_
      refine lv_lconst (v := (1 : Int64)) S.1 S.2.1 dX9_isOfLoad_54 (by decide) ?_
      refine lv_ldc2 (v := (900000 : Int64)) S.1 S.2.1 S.2.2.2.1 (S.2.2.2.2 _ (List.mem_of_getElem? (i := 3) rfl)) dX9_isOfLoad_55 ?_
      refine s_callS (As := [.long (Int32.toInt64 value), .long (1 : Int64), .long (900000 : Int64)]) (rest := []) S hX G (k_X9_in l E (Int32.toInt64 value) (1 : Int64) (900000 : Int64)) (va_cwS (bytes := cX9_in) (maxL := 6) (ret := (some .boolean)) 3 S.2.2.2.2 gX9_isOfLoad_X9_in rfl rfl rfl (by decide +kernel) ⟨Nat.le_of_ble_eq_true rfl, Nat.le_of_ble_eq_true rfl⟩) rfl hl.1 rfl (Nat.le_of_ble_eq_true rfl) ⟨Nat.zero_le _, Nat.zero_le _⟩ dX9_isOfLoad_58 (fun v I1 L1 H locs hR G => ?_)
      obtain ⟨hv, hI, hL⟩ := hR
      subst hv
      have G : GS E I L sg H locs := G.same hI hL
      refine W.eq (g2 := F0 mg 61 ls [.int (if ¬ (Int32.toInt64 value) < (1 : Int64) ∧ ¬ (900000 : Int64) < (Int32.toInt64 value) then 1 else 0)]) rfl ?_
      refine s_zret (x := (if ¬ (Int32.toInt64 value) < (1 : Int64) ∧ ¬ (900000 : Int64) < (Int32.toInt64 value) then 1 else 0)) S G hr hlk dX9_isOfLoad_61 isb_ite ?_
      exact ⟨(congrArg (fun q : Int32 => some (Value.int q)) (show (if ¬ (Int32.toInt64 value) < (1 : Int64) ∧ ¬ (900000 : Int64) < (Int32.toInt64 value) then 1 else 0) = (if TK4 (2 : Int32) value then 1 else 0) by rw [(show (1 : Int64) = Int32.toInt64 1 from by decide), (show (900000 : Int64) = Int32.toInt64 900000 from by decide)]; exact ifc ((i64_in value 1 900000).trans (tk_of (by decide))))), rfl, rfl⟩
    · refine lv_tableIn (off := 61) (tgt := 62) S.1 S.2.1 dX9_isOfLoad_1 (by decide) (by decide) (by decide) (by decide) ?_
      refine lv_iload_n S.1 S.2.1 dX9_isOfLoad_62 rfl (lv_at hl 1 rfl) ?_
      refine lv_i2l (v := (Int32.toInt64 value)) S.1 S.2.1 dX9_isOfLoad_63 rfl ?_
      refine lv_lconst (v := (0 : Int64)) S.1 S.2.1 dX9_isOfLoad_64 (by decide) ?_
      refine lv_ldc2 (v := (900000 : Int64)) S.1 S.2.1 S.2.2.2.1 (S.2.2.2.2 _ (List.mem_of_getElem? (i := 3) rfl)) dX9_isOfLoad_65 ?_
      refine s_callS (As := [.long (Int32.toInt64 value), .long (0 : Int64), .long (900000 : Int64)]) (rest := []) S hX G (k_X9_in l E (Int32.toInt64 value) (0 : Int64) (900000 : Int64)) (va_cwS (bytes := cX9_in) (maxL := 6) (ret := (some .boolean)) 3 S.2.2.2.2 gX9_isOfLoad_X9_in rfl rfl rfl (by decide +kernel) ⟨Nat.le_of_ble_eq_true rfl, Nat.le_of_ble_eq_true rfl⟩) rfl hl.1 rfl (Nat.le_of_ble_eq_true rfl) ⟨Nat.zero_le _, Nat.zero_le _⟩ dX9_isOfLoad_68 (fun v I1 L1 H locs hR G => ?_)
      obtain ⟨hv, hI, hL⟩ := hR
      subst hv
      have G : GS E I L sg H locs := G.same hI hL
      refine W.eq (g2 := F0 mg 71 ls [.int (if ¬ (Int32.toInt64 value) < (0 : Int64) ∧ ¬ (900000 : Int64) < (Int32.toInt64 value) then 1 else 0)]) rfl ?_
      refine s_zret (x := (if ¬ (Int32.toInt64 value) < (0 : Int64) ∧ ¬ (900000 : Int64) < (Int32.toInt64 value) then 1 else 0)) S G hr hlk dX9_isOfLoad_71 isb_ite ?_
      exact ⟨(congrArg (fun q : Int32 => some (Value.int q)) (show (if ¬ (Int32.toInt64 value) < (0 : Int64) ∧ ¬ (900000 : Int64) < (Int32.toInt64 value) then 1 else 0) = (if TK4 (3 : Int32) value then 1 else 0) by rw [(show (0 : Int64) = Int32.toInt64 0 from by decide), (show (900000 : Int64) = Int32.toInt64 900000 from by decide)]; exact ifc ((i64_in value 0 900000).trans (tk_of (by decide))))), rfl, rfl⟩
  · refine lv_tableOut (tgt := 72) S.1 S.2.1 dX9_isOfLoad_1 hout (by decide) ?_
    refine lv_iconst (v := (0 : Int32)) S.1 S.2.1 dX9_isOfLoad_72 (by decide) ?_
    refine s_zret (x := (0 : Int32)) S G hr hlk dX9_isOfLoad_73 (Or.inl rfl) ?_
    exact ⟨(congrArg (fun q : Int32 => some (Value.int q)) (show (0 : Int32) = (if TK4 what value then 1 else 0) by exact (if_neg (fun q => out_n (n := 4) (by decide) hout q.1)).symm)), rfl, rfl⟩
set_option maxHeartbeats 4000000 in
set_option maxRecDepth 100000 in
theorem k_X9_placeOf_0_0 (l : Launch) (E : Ev) {I : SI} {L : SL} (d : Nat → Int32) (e_d : I (162) = d) : CS l yX9_placeOf wsX9_placeOf ({ frames := 2, cells := 0, slots := 0, locals := 42 }) E [.ref (E.2.2.2 161), .int (0 : Int32), .int (0 : Int32)] I L (fun vv I' L' => vv = some (.int (plcM d 40 0)) ∧ I' = I ∧ L' = L) := by
  refine CS.of (cc := cX9_placeOf) (maxL := 5) (ret := (some .int)) (by decide) rfl (Nat.le_of_ble_eq_true rfl) ?_
  intro pg en sg mg below meth cg ls S hr hlk hX G hl
  have S : CallFix pg mg cg cX9_placeOf 5 sg _ wsX9_placeOf RX9 := S
  have hl : lv_has ls 5 [(0, .ref (E.2.2.2 161)), (1, .int (0 : Int32)), (2, .int (0 : Int32))] := hl
  refine lv_iconst (v := (0 : Int32)) S.1 S.2.1 dX9_placeOf_0 (by decide) ?_
  refine lv_istore_n (lv' := [(3, .int (0 : Int32)), (0, .ref (E.2.2.2 161)), (1, .int (0 : Int32)), (2, .int (0 : Int32))]) S.1 S.2.1 dX9_placeOf_1 rfl hl (by decide) rfl (fun ls hl => ?_)
  refine lv_iconst (v := (0 : Int32)) S.1 S.2.1 dX9_placeOf_2 (by decide) ?_
  refine lv_istore (lv' := [(4, .int (0 : Int32)), (3, .int (0 : Int32)), (0, .ref (E.2.2.2 161)), (1, .int (0 : Int32)), (2, .int (0 : Int32))]) S.1 S.2.1 dX9_placeOf_3 hl (by decide) rfl (fun ls hl => ?_)
  refine s_cut (α := Int32) (nL := 5) (E := E) (fun x I' L' => x = ((0 : Int32) + pl1M d 40 0 0) ∧ I' = I ∧ L' = L) (fun x => [(4, .int (1 : Int32)), (3, .int x), (0, .ref (E.2.2.2 161)), (1, .int (0 : Int32)), (2, .int (0 : Int32))]) 5 (fun x => []) (fun kJ_1 => ?_) (fun x I1 L1 H locs ls hP G hl => ?_)
  · refine lv_iload S.1 S.2.1 dX9_placeOf_5 (lv_at hl 0 rfl) ?_
    refine lv_iconst (v := (3 : Int32)) S.1 S.2.1 dX9_placeOf_7 (by decide) ?_
    refine lv_icmp_ge (tgt := 75) S.1 S.2.1 dX9_placeOf_8 (by decide) (fun h => absurd h (by decide)) (fun _ => ?_)
    refine lv_iload_n S.1 S.2.1 dX9_placeOf_11 rfl (lv_at hl 1 rfl) ?_
    refine lv_aload_n S.1 S.2.1 dX9_placeOf_12 rfl (lv_at hl 2 rfl) ?_
    refine lv_iload_n S.1 S.2.1 dX9_placeOf_13 rfl (lv_at hl 3 rfl) ?_
    refine lv_iload S.1 S.2.1 dX9_placeOf_14 (lv_at hl 0 rfl) ?_
    refine s_callV (C := RX9) (As := [.int (0 : Int32), .int (0 : Int32)]) (rest := [.int (0 : Int32)]) (i := 161) (kd := 9) S hX G (k_X9_isLatched_0_0 l E d e_d) (cwV (bytes := cX9_isLatched) (maxL := 3) (ret := (some .boolean)) 2 S.2.2.2.2 gX9_placeOf_X9_isLatched rfl rfl rfl (by decide +kernel) ⟨Nat.le_of_ble_eq_true rfl, Nat.le_of_ble_eq_true rfl⟩) (rfl : sh 161 = 9) rfl rfl rfl (by decide) rfl hl.1 rfl (Nat.le_of_ble_eq_true rfl) ⟨Nat.zero_le _, Nat.zero_le _⟩ dX9_placeOf_16 (fun v I1 L1 H locs hR G => ?_)
    obtain ⟨hv, hI, hL⟩ := hR
    subst hv
    have G : GS E I L sg H locs := G.same hI hL
    refine W.eq (g2 := F0 mg 19 ls [.int (if ¬ d 52 = -1 then 1 else 0), .int (0 : Int32)]) rfl ?_
    refine s_if_eq_b (P := ¬ d 52 = -1) (tgt := 66) S dX9_placeOf_19 (by decide) (fun c_2 => ?_) (fun c_2 => ?_)
    · refine lv_iconst (v := (0 : Int32)) S.1 S.2.1 dX9_placeOf_66 (by decide) ?_
      refine s_iadd (v := (0 : Int32)) S dX9_placeOf_67 (by decide) ?_
      refine lv_istore_n (lv' := [(3, .int (0 : Int32)), (4, .int (0 : Int32)), (0, .ref (E.2.2.2 161)), (1, .int (0 : Int32)), (2, .int (0 : Int32))]) S.1 S.2.1 dX9_placeOf_68 rfl hl (by decide) rfl (fun ls hl => ?_)
      refine lv_iinc (v := (1 : Int32)) (lv' := [(4, .int (1 : Int32)), (3, .int (0 : Int32)), (0, .ref (E.2.2.2 161)), (1, .int (0 : Int32)), (2, .int (0 : Int32))]) S.1 S.2.1 dX9_placeOf_69 hl (k := 1) rfl (by decide) (by decide) rfl (fun ls hl => ?_)
      refine lv_goto (tgt := 5) S.1 S.2.1 dX9_placeOf_72 (by decide) ?_
      exact kJ_1 (0 : Int32) _ _ _ _ _ ⟨(show (0 : Int32) = (0 : Int32) + pl1M d 40 0 0 by first | (simp [pl1M, c_2]; done) | (clear S hX G hl; grind [pl1M])), rfl, rfl⟩ G (lv_sub hl [0, 1, 2, 3, 4] rfl)
    · refine lv_aload_n S.1 S.2.1 dX9_placeOf_22 rfl (lv_at hl 2 rfl) ?_
      refine s_get S hX G (i := 161) (kd := 9) (a := (I 161)) (v := .ref (E.2.2.2 162)) (C := RX9) (T := TX9) (N := 13) 0 (rfl : sh 161 = 9) rfl rfl rfl (by decide) rfl (fun _ h => (List.mem_cons_of_mem _ (List.mem_append_right _ h))) (by decide) (List.mem_of_getElem? (i := 1) rfl) (fun _ h => h) dX9_placeOf_23 ?_
      refine lv_iload_n S.1 S.2.1 dX9_placeOf_26 rfl (lv_at hl 3 rfl) ?_
      refine s_callS (As := [.int (0 : Int32)]) (rest := [.ref (E.2.2.2 162), .int (0 : Int32)]) S hX G (k_X9_loadAt_0 l E) (va_cwS (bytes := cX9_loadAt) (maxL := 1) (ret := (some .int)) 1 S.2.2.2.2 gX9_placeOf_X9_loadAt rfl rfl rfl (by decide +kernel) ⟨Nat.le_of_ble_eq_true rfl, Nat.le_of_ble_eq_true rfl⟩) rfl hl.1 rfl (Nat.le_of_ble_eq_true rfl) ⟨Nat.zero_le _, Nat.zero_le _⟩ dX9_placeOf_27 (fun v I1 L1 H locs hR G => ?_)
      obtain ⟨hv, hI, hL⟩ := hR
      subst hv
      have G : GS E I L sg H locs := G.same hI hL
      refine W.eq (g2 := F0 mg 30 ls [.int (40 : Int32), .ref (E.2.2.2 162), .int (0 : Int32)]) rfl ?_
      refine lv_bipush (v := (12 : Int32)) S.1 S.2.1 dX9_placeOf_30 (by decide) ?_
      refine s_iadd (v := (52 : Int32)) S dX9_placeOf_32 (by decide) ?_
      refine lv_iconst (v := (3 : Int32)) S.1 S.2.1 dX9_placeOf_33 (by decide) ?_
      refine lv_iload S.1 S.2.1 dX9_placeOf_34 (lv_at hl 0 rfl) ?_
      refine s_imul (v := (0 : Int32)) S dX9_placeOf_36 (by decide) ?_
      refine s_iadd (v := (52 : Int32)) S dX9_placeOf_37 (by decide) ?_
      refine lv_iconst (v := (2 : Int32)) S.1 S.2.1 dX9_placeOf_38 (by decide) ?_
      refine s_iadd (v := (54 : Int32)) S dX9_placeOf_39 (by decide) ?_
      refine s_iald S hX G (i := 162) (kd := 284) (n := 270) (a := d) (x := (d 54)) (rfl : sh 162 = 284) e_d rfl (by decide) (by unfold vp_in; decide) (congrArg d (by decide)) dX9_placeOf_40 ?_
      refine lv_aload_n S.1 S.2.1 dX9_placeOf_41 rfl (lv_at hl 2 rfl) ?_
      refine s_get S hX G (i := 161) (kd := 9) (a := (I 161)) (v := .ref (E.2.2.2 162)) (C := RX9) (T := TX9) (N := 13) 0 (rfl : sh 161 = 9) rfl rfl rfl (by decide) rfl (fun _ h => (List.mem_cons_of_mem _ (List.mem_append_right _ h))) (by decide) (List.mem_of_getElem? (i := 1) rfl) (fun _ h => h) dX9_placeOf_42 ?_
      refine lv_iload_n S.1 S.2.1 dX9_placeOf_45 rfl (lv_at hl 3 rfl) ?_
      refine s_callS (As := [.int (0 : Int32)]) (rest := [.ref (E.2.2.2 162), .int (d 54), .int (0 : Int32)]) S hX G (k_X9_loadAt_0 l E) (va_cwS (bytes := cX9_loadAt) (maxL := 1) (ret := (some .int)) 1 S.2.2.2.2 gX9_placeOf_X9_loadAt rfl rfl rfl (by decide +kernel) ⟨Nat.le_of_ble_eq_true rfl, Nat.le_of_ble_eq_true rfl⟩) rfl hl.1 rfl (Nat.le_of_ble_eq_true rfl) ⟨Nat.zero_le _, Nat.zero_le _⟩ dX9_placeOf_46 (fun v I1 L1 H locs hR G => ?_)
      obtain ⟨hv, hI, hL⟩ := hR
      subst hv
      have G : GS E I L sg H locs := G.same hI hL
      refine W.eq (g2 := F0 mg 49 ls [.int (40 : Int32), .ref (E.2.2.2 162), .int (d 54), .int (0 : Int32)]) rfl ?_
      refine lv_bipush (v := (12 : Int32)) S.1 S.2.1 dX9_placeOf_49 (by decide) ?_
      refine s_iadd (v := (52 : Int32)) S dX9_placeOf_51 (by decide) ?_
      refine lv_iconst (v := (3 : Int32)) S.1 S.2.1 dX9_placeOf_52 (by decide) ?_
      refine lv_iload_n S.1 S.2.1 dX9_placeOf_53 rfl (lv_at hl 4 rfl) ?_
      refine s_imul (v := (0 : Int32)) S dX9_placeOf_54 (by decide) ?_
      refine s_iadd (v := (52 : Int32)) S dX9_placeOf_55 (by decide) ?_
      refine lv_iconst (v := (2 : Int32)) S.1 S.2.1 dX9_placeOf_56 (by decide) ?_
      refine s_iadd (v := (54 : Int32)) S dX9_placeOf_57 (by decide) ?_
      refine s_iald S hX G (i := 162) (kd := 284) (n := 270) (a := d) (x := (d 54)) (rfl : sh 162 = 284) e_d rfl (by decide) (by unfold vp_in; decide) (congrArg d (by decide)) dX9_placeOf_58 ?_
      refine lv_icmp_ge (tgt := 66) S.1 S.2.1 dX9_placeOf_59 (by decide) (fun c_3 => ?_) (fun c_3 => ?_)
      · refine lv_iconst (v := (0 : Int32)) S.1 S.2.1 dX9_placeOf_66 (by decide) ?_
        refine s_iadd (v := (0 : Int32)) S dX9_placeOf_67 (by decide) ?_
        refine lv_istore_n (lv' := [(3, .int (0 : Int32)), (4, .int (0 : Int32)), (0, .ref (E.2.2.2 161)), (1, .int (0 : Int32)), (2, .int (0 : Int32))]) S.1 S.2.1 dX9_placeOf_68 rfl hl (by decide) rfl (fun ls hl => ?_)
        refine lv_iinc (v := (1 : Int32)) (lv' := [(4, .int (1 : Int32)), (3, .int (0 : Int32)), (0, .ref (E.2.2.2 161)), (1, .int (0 : Int32)), (2, .int (0 : Int32))]) S.1 S.2.1 dX9_placeOf_69 hl (k := 1) rfl (by decide) (by decide) rfl (fun ls hl => ?_)
        refine lv_goto (tgt := 5) S.1 S.2.1 dX9_placeOf_72 (by decide) ?_
        exact kJ_1 (0 : Int32) _ _ _ _ _ ⟨(show (0 : Int32) = (0 : Int32) + pl1M d 40 0 0 by first | (simp [pl1M, c_2, c_3]; done) | (clear S hX G hl; grind [pl1M])), rfl, rfl⟩ G (lv_sub hl [0, 1, 2, 3, 4] rfl)
      · refine lv_iconst (v := (1 : Int32)) S.1 S.2.1 dX9_placeOf_62 (by decide) ?_
        refine lv_goto (tgt := 67) S.1 S.2.1 dX9_placeOf_63 (by decide) ?_
        refine s_iadd (v := (1 : Int32)) S dX9_placeOf_67 (by decide) ?_
        refine lv_istore_n (lv' := [(3, .int (1 : Int32)), (4, .int (0 : Int32)), (0, .ref (E.2.2.2 161)), (1, .int (0 : Int32)), (2, .int (0 : Int32))]) S.1 S.2.1 dX9_placeOf_68 rfl hl (by decide) rfl (fun ls hl => ?_)
        refine lv_iinc (v := (1 : Int32)) (lv' := [(4, .int (1 : Int32)), (3, .int (1 : Int32)), (0, .ref (E.2.2.2 161)), (1, .int (0 : Int32)), (2, .int (0 : Int32))]) S.1 S.2.1 dX9_placeOf_69 hl (k := 1) rfl (by decide) (by decide) rfl (fun ls hl => ?_)
        refine lv_goto (tgt := 5) S.1 S.2.1 dX9_placeOf_72 (by decide) ?_
        exact kJ_1 (1 : Int32) _ _ _ _ _ ⟨(show (1 : Int32) = (0 : Int32) + pl1M d 40 0 0 by first | (simp [pl1M, c_2, c_3]; done) | (clear S hX G hl; grind [pl1M])), rfl, rfl⟩ G (lv_sub hl [0, 1, 2, 3, 4] rfl)
  · obtain ⟨h0, hI, hL⟩ := hP
    have h0 : x = ((0 : Int32) + pl1M d 40 0 0) := h0
    have hl : lv_has ls 5 [(4, .int (1 : Int32)), (3, .int x), (0, .ref (E.2.2.2 161)), (1, .int (0 : Int32)), (2, .int (0 : Int32))] := hl
    subst h0
    have G : GS E I L sg H locs := G.same hI hL
    refine W.eq (g2 := F0 mg 5 ls []) rfl ?_
    refine s_cut (α := Int32) (nL := 5) (E := E) (fun x I' L' => x = (((0 : Int32) + pl1M d 40 0 0) + pl1M d 40 0 1) ∧ I' = I ∧ L' = L) (fun x => [(4, .int (2 : Int32)), (3, .int x), (0, .ref (E.2.2.2 161)), (1, .int (0 : Int32)), (2, .int (0 : Int32))]) 5 (fun x => []) (fun kJ_4 => ?_) (fun x I1 L1 H locs ls hP G hl => ?_)
    · refine lv_iload S.1 S.2.1 dX9_placeOf_5 (lv_at hl 0 rfl) ?_
      refine lv_iconst (v := (3 : Int32)) S.1 S.2.1 dX9_placeOf_7 (by decide) ?_
      refine lv_icmp_ge (tgt := 75) S.1 S.2.1 dX9_placeOf_8 (by decide) (fun h => absurd h (by decide)) (fun _ => ?_)
      refine lv_iload_n S.1 S.2.1 dX9_placeOf_11 rfl (lv_at hl 1 rfl) ?_
      refine lv_aload_n S.1 S.2.1 dX9_placeOf_12 rfl (lv_at hl 2 rfl) ?_
      refine lv_iload_n S.1 S.2.1 dX9_placeOf_13 rfl (lv_at hl 3 rfl) ?_
      refine lv_iload S.1 S.2.1 dX9_placeOf_14 (lv_at hl 0 rfl) ?_
      refine s_callV (C := RX9) (As := [.int (0 : Int32), .int (1 : Int32)]) (rest := [.int ((0 : Int32) + pl1M d 40 0 0)]) (i := 161) (kd := 9) S hX G (k_X9_isLatched_0_1 l E d e_d) (cwV (bytes := cX9_isLatched) (maxL := 3) (ret := (some .boolean)) 2 S.2.2.2.2 gX9_placeOf_X9_isLatched rfl rfl rfl (by decide +kernel) ⟨Nat.le_of_ble_eq_true rfl, Nat.le_of_ble_eq_true rfl⟩) (rfl : sh 161 = 9) rfl rfl rfl (by decide) rfl hl.1 rfl (Nat.le_of_ble_eq_true rfl) ⟨Nat.zero_le _, Nat.zero_le _⟩ dX9_placeOf_16 (fun v I1 L1 H locs hR G => ?_)
      obtain ⟨hv, hI, hL⟩ := hR
      subst hv
      have G : GS E I L sg H locs := G.same hI hL
      refine W.eq (g2 := F0 mg 19 ls [.int (if ¬ d 55 = -1 then 1 else 0), .int ((0 : Int32) + pl1M d 40 0 0)]) rfl ?_
      refine s_if_eq_b (P := ¬ d 55 = -1) (tgt := 66) S dX9_placeOf_19 (by decide) (fun c_5 => ?_) (fun c_5 => ?_)
      · refine lv_iconst (v := (0 : Int32)) S.1 S.2.1 dX9_placeOf_66 (by decide) ?_
        refine s_iadd (v := (((0 : Int32) + pl1M d 40 0 0) + (0 : Int32))) S dX9_placeOf_67 rfl ?_
        refine lv_istore_n (lv' := [(3, .int (((0 : Int32) + pl1M d 40 0 0) + (0 : Int32))), (4, .int (1 : Int32)), (0, .ref (E.2.2.2 161)), (1, .int (0 : Int32)), (2, .int (0 : Int32))]) S.1 S.2.1 dX9_placeOf_68 rfl hl (by decide) rfl (fun ls hl => ?_)
        refine lv_iinc (v := (2 : Int32)) (lv' := [(4, .int (2 : Int32)), (3, .int (((0 : Int32) + pl1M d 40 0 0) + (0 : Int32))), (0, .ref (E.2.2.2 161)), (1, .int (0 : Int32)), (2, .int (0 : Int32))]) S.1 S.2.1 dX9_placeOf_69 hl (k := 1) rfl (by decide) (by decide) rfl (fun ls hl => ?_)
        refine lv_goto (tgt := 5) S.1 S.2.1 dX9_placeOf_72 (by decide) ?_
        exact kJ_4 (((0 : Int32) + pl1M d 40 0 0) + (0 : Int32)) _ _ _ _ _ ⟨(show (((0 : Int32) + pl1M d 40 0 0) + (0 : Int32)) = ((0 : Int32) + pl1M d 40 0 0) + pl1M d 40 0 1 by first | (simp [pl1M, c_5]; done) | (clear S hX G hl; grind [pl1M])), rfl, rfl⟩ G (lv_sub hl [0, 1, 2, 3, 4] rfl)
      · refine lv_aload_n S.1 S.2.1 dX9_placeOf_22 rfl (lv_at hl 2 rfl) ?_
        refine s_get S hX G (i := 161) (kd := 9) (a := (I 161)) (v := .ref (E.2.2.2 162)) (C := RX9) (T := TX9) (N := 13) 0 (rfl : sh 161 = 9) rfl rfl rfl (by decide) rfl (fun _ h => (List.mem_cons_of_mem _ (List.mem_append_right _ h))) (by decide) (List.mem_of_getElem? (i := 1) rfl) (fun _ h => h) dX9_placeOf_23 ?_
        refine lv_iload_n S.1 S.2.1 dX9_placeOf_26 rfl (lv_at hl 3 rfl) ?_
        refine s_callS (As := [.int (0 : Int32)]) (rest := [.ref (E.2.2.2 162), .int ((0 : Int32) + pl1M d 40 0 0)]) S hX G (k_X9_loadAt_0 l E) (va_cwS (bytes := cX9_loadAt) (maxL := 1) (ret := (some .int)) 1 S.2.2.2.2 gX9_placeOf_X9_loadAt rfl rfl rfl (by decide +kernel) ⟨Nat.le_of_ble_eq_true rfl, Nat.le_of_ble_eq_true rfl⟩) rfl hl.1 rfl (Nat.le_of_ble_eq_true rfl) ⟨Nat.zero_le _, Nat.zero_le _⟩ dX9_placeOf_27 (fun v I1 L1 H locs hR G => ?_)
        obtain ⟨hv, hI, hL⟩ := hR
        subst hv
        have G : GS E I L sg H locs := G.same hI hL
        refine W.eq (g2 := F0 mg 30 ls [.int (40 : Int32), .ref (E.2.2.2 162), .int ((0 : Int32) + pl1M d 40 0 0)]) rfl ?_
        refine lv_bipush (v := (12 : Int32)) S.1 S.2.1 dX9_placeOf_30 (by decide) ?_
        refine s_iadd (v := (52 : Int32)) S dX9_placeOf_32 (by decide) ?_
        refine lv_iconst (v := (3 : Int32)) S.1 S.2.1 dX9_placeOf_33 (by decide) ?_
        refine lv_iload S.1 S.2.1 dX9_placeOf_34 (lv_at hl 0 rfl) ?_
        refine s_imul (v := (3 : Int32)) S dX9_placeOf_36 (by decide) ?_
        refine s_iadd (v := (55 : Int32)) S dX9_placeOf_37 (by decide) ?_
        refine lv_iconst (v := (2 : Int32)) S.1 S.2.1 dX9_placeOf_38 (by decide) ?_
        refine s_iadd (v := (57 : Int32)) S dX9_placeOf_39 (by decide) ?_
        refine s_iald S hX G (i := 162) (kd := 284) (n := 270) (a := d) (x := (d 57)) (rfl : sh 162 = 284) e_d rfl (by decide) (by unfold vp_in; decide) (congrArg d (by decide)) dX9_placeOf_40 ?_
        refine lv_aload_n S.1 S.2.1 dX9_placeOf_41 rfl (lv_at hl 2 rfl) ?_
        refine s_get S hX G (i := 161) (kd := 9) (a := (I 161)) (v := .ref (E.2.2.2 162)) (C := RX9) (T := TX9) (N := 13) 0 (rfl : sh 161 = 9) rfl rfl rfl (by decide) rfl (fun _ h => (List.mem_cons_of_mem _ (List.mem_append_right _ h))) (by decide) (List.mem_of_getElem? (i := 1) rfl) (fun _ h => h) dX9_placeOf_42 ?_
        refine lv_iload_n S.1 S.2.1 dX9_placeOf_45 rfl (lv_at hl 3 rfl) ?_
        refine s_callS (As := [.int (0 : Int32)]) (rest := [.ref (E.2.2.2 162), .int (d 57), .int ((0 : Int32) + pl1M d 40 0 0)]) S hX G (k_X9_loadAt_0 l E) (va_cwS (bytes := cX9_loadAt) (maxL := 1) (ret := (some .int)) 1 S.2.2.2.2 gX9_placeOf_X9_loadAt rfl rfl rfl (by decide +kernel) ⟨Nat.le_of_ble_eq_true rfl, Nat.le_of_ble_eq_true rfl⟩) rfl hl.1 rfl (Nat.le_of_ble_eq_true rfl) ⟨Nat.zero_le _, Nat.zero_le _⟩ dX9_placeOf_46 (fun v I1 L1 H locs hR G => ?_)
        obtain ⟨hv, hI, hL⟩ := hR
        subst hv
        have G : GS E I L sg H locs := G.same hI hL
        refine W.eq (g2 := F0 mg 49 ls [.int (40 : Int32), .ref (E.2.2.2 162), .int (d 57), .int ((0 : Int32) + pl1M d 40 0 0)]) rfl ?_
        refine lv_bipush (v := (12 : Int32)) S.1 S.2.1 dX9_placeOf_49 (by decide) ?_
        refine s_iadd (v := (52 : Int32)) S dX9_placeOf_51 (by decide) ?_
        refine lv_iconst (v := (3 : Int32)) S.1 S.2.1 dX9_placeOf_52 (by decide) ?_
        refine lv_iload_n S.1 S.2.1 dX9_placeOf_53 rfl (lv_at hl 4 rfl) ?_
        refine s_imul (v := (0 : Int32)) S dX9_placeOf_54 (by decide) ?_
        refine s_iadd (v := (52 : Int32)) S dX9_placeOf_55 (by decide) ?_
        refine lv_iconst (v := (2 : Int32)) S.1 S.2.1 dX9_placeOf_56 (by decide) ?_
        refine s_iadd (v := (54 : Int32)) S dX9_placeOf_57 (by decide) ?_
        refine s_iald S hX G (i := 162) (kd := 284) (n := 270) (a := d) (x := (d 54)) (rfl : sh 162 = 284) e_d rfl (by decide) (by unfold vp_in; decide) (congrArg d (by decide)) dX9_placeOf_58 ?_
        refine lv_icmp_ge (tgt := 66) S.1 S.2.1 dX9_placeOf_59 (by decide) (fun c_6 => ?_) (fun c_6 => ?_)
        · refine lv_iconst (v := (0 : Int32)) S.1 S.2.1 dX9_placeOf_66 (by decide) ?_
          refine s_iadd (v := (((0 : Int32) + pl1M d 40 0 0) + (0 : Int32))) S dX9_placeOf_67 rfl ?_
          refine lv_istore_n (lv' := [(3, .int (((0 : Int32) + pl1M d 40 0 0) + (0 : Int32))), (4, .int (1 : Int32)), (0, .ref (E.2.2.2 161)), (1, .int (0 : Int32)), (2, .int (0 : Int32))]) S.1 S.2.1 dX9_placeOf_68 rfl hl (by decide) rfl (fun ls hl => ?_)
          refine lv_iinc (v := (2 : Int32)) (lv' := [(4, .int (2 : Int32)), (3, .int (((0 : Int32) + pl1M d 40 0 0) + (0 : Int32))), (0, .ref (E.2.2.2 161)), (1, .int (0 : Int32)), (2, .int (0 : Int32))]) S.1 S.2.1 dX9_placeOf_69 hl (k := 1) rfl (by decide) (by decide) rfl (fun ls hl => ?_)
          refine lv_goto (tgt := 5) S.1 S.2.1 dX9_placeOf_72 (by decide) ?_
          exact kJ_4 (((0 : Int32) + pl1M d 40 0 0) + (0 : Int32)) _ _ _ _ _ ⟨(show (((0 : Int32) + pl1M d 40 0 0) + (0 : Int32)) = ((0 : Int32) + pl1M d 40 0 0) + pl1M d 40 0 1 by first | (simp [pl1M, c_5, c_6]; done) | (clear S hX G hl; grind [pl1M])), rfl, rfl⟩ G (lv_sub hl [0, 1, 2, 3, 4] rfl)
        · refine lv_iconst (v := (1 : Int32)) S.1 S.2.1 dX9_placeOf_62 (by decide) ?_
          refine lv_goto (tgt := 67) S.1 S.2.1 dX9_placeOf_63 (by decide) ?_
          refine s_iadd (v := (((0 : Int32) + pl1M d 40 0 0) + (1 : Int32))) S dX9_placeOf_67 rfl ?_
          refine lv_istore_n (lv' := [(3, .int (((0 : Int32) + pl1M d 40 0 0) + (1 : Int32))), (4, .int (1 : Int32)), (0, .ref (E.2.2.2 161)), (1, .int (0 : Int32)), (2, .int (0 : Int32))]) S.1 S.2.1 dX9_placeOf_68 rfl hl (by decide) rfl (fun ls hl => ?_)
          refine lv_iinc (v := (2 : Int32)) (lv' := [(4, .int (2 : Int32)), (3, .int (((0 : Int32) + pl1M d 40 0 0) + (1 : Int32))), (0, .ref (E.2.2.2 161)), (1, .int (0 : Int32)), (2, .int (0 : Int32))]) S.1 S.2.1 dX9_placeOf_69 hl (k := 1) rfl (by decide) (by decide) rfl (fun ls hl => ?_)
          refine lv_goto (tgt := 5) S.1 S.2.1 dX9_placeOf_72 (by decide) ?_
          exact kJ_4 (((0 : Int32) + pl1M d 40 0 0) + (1 : Int32)) _ _ _ _ _ ⟨(show (((0 : Int32) + pl1M d 40 0 0) + (1 : Int32)) = ((0 : Int32) + pl1M d 40 0 0) + pl1M d 40 0 1 by first | (simp [pl1M, c_5, c_6]; done) | (clear S hX G hl; grind [pl1M])), rfl, rfl⟩ G (lv_sub hl [0, 1, 2, 3, 4] rfl)
    · obtain ⟨h0, hI, hL⟩ := hP
      have h0 : x = (((0 : Int32) + pl1M d 40 0 0) + pl1M d 40 0 1) := h0
      have hl : lv_has ls 5 [(4, .int (2 : Int32)), (3, .int x), (0, .ref (E.2.2.2 161)), (1, .int (0 : Int32)), (2, .int (0 : Int32))] := hl
      subst h0
      have G : GS E I L sg H locs := G.same hI hL
      refine W.eq (g2 := F0 mg 5 ls []) rfl ?_
      refine s_cut (α := Int32) (nL := 5) (E := E) (fun x I' L' => x = ((((0 : Int32) + pl1M d 40 0 0) + pl1M d 40 0 1) + pl1M d 40 0 2) ∧ I' = I ∧ L' = L) (fun x => [(4, .int (3 : Int32)), (3, .int x), (0, .ref (E.2.2.2 161)), (1, .int (0 : Int32)), (2, .int (0 : Int32))]) 5 (fun x => []) (fun kJ_7 => ?_) (fun x I1 L1 H locs ls hP G hl => ?_)
      · refine lv_iload S.1 S.2.1 dX9_placeOf_5 (lv_at hl 0 rfl) ?_
        refine lv_iconst (v := (3 : Int32)) S.1 S.2.1 dX9_placeOf_7 (by decide) ?_
        refine lv_icmp_ge (tgt := 75) S.1 S.2.1 dX9_placeOf_8 (by decide) (fun h => absurd h (by decide)) (fun _ => ?_)
        refine lv_iload_n S.1 S.2.1 dX9_placeOf_11 rfl (lv_at hl 1 rfl) ?_
        refine lv_aload_n S.1 S.2.1 dX9_placeOf_12 rfl (lv_at hl 2 rfl) ?_
        refine lv_iload_n S.1 S.2.1 dX9_placeOf_13 rfl (lv_at hl 3 rfl) ?_
        refine lv_iload S.1 S.2.1 dX9_placeOf_14 (lv_at hl 0 rfl) ?_
        refine s_callV (C := RX9) (As := [.int (0 : Int32), .int (2 : Int32)]) (rest := [.int (((0 : Int32) + pl1M d 40 0 0) + pl1M d 40 0 1)]) (i := 161) (kd := 9) S hX G (k_X9_isLatched_0_2 l E d e_d) (cwV (bytes := cX9_isLatched) (maxL := 3) (ret := (some .boolean)) 2 S.2.2.2.2 gX9_placeOf_X9_isLatched rfl rfl rfl (by decide +kernel) ⟨Nat.le_of_ble_eq_true rfl, Nat.le_of_ble_eq_true rfl⟩) (rfl : sh 161 = 9) rfl rfl rfl (by decide) rfl hl.1 rfl (Nat.le_of_ble_eq_true rfl) ⟨Nat.zero_le _, Nat.zero_le _⟩ dX9_placeOf_16 (fun v I1 L1 H locs hR G => ?_)
        obtain ⟨hv, hI, hL⟩ := hR
        subst hv
        have G : GS E I L sg H locs := G.same hI hL
        refine W.eq (g2 := F0 mg 19 ls [.int (if ¬ d 58 = -1 then 1 else 0), .int (((0 : Int32) + pl1M d 40 0 0) + pl1M d 40 0 1)]) rfl ?_
        refine s_if_eq_b (P := ¬ d 58 = -1) (tgt := 66) S dX9_placeOf_19 (by decide) (fun c_8 => ?_) (fun c_8 => ?_)
        · refine lv_iconst (v := (0 : Int32)) S.1 S.2.1 dX9_placeOf_66 (by decide) ?_
          refine s_iadd (v := ((((0 : Int32) + pl1M d 40 0 0) + pl1M d 40 0 1) + (0 : Int32))) S dX9_placeOf_67 rfl ?_
          refine lv_istore_n (lv' := [(3, .int ((((0 : Int32) + pl1M d 40 0 0) + pl1M d 40 0 1) + (0 : Int32))), (4, .int (2 : Int32)), (0, .ref (E.2.2.2 161)), (1, .int (0 : Int32)), (2, .int (0 : Int32))]) S.1 S.2.1 dX9_placeOf_68 rfl hl (by decide) rfl (fun ls hl => ?_)
          refine lv_iinc (v := (3 : Int32)) (lv' := [(4, .int (3 : Int32)), (3, .int ((((0 : Int32) + pl1M d 40 0 0) + pl1M d 40 0 1) + (0 : Int32))), (0, .ref (E.2.2.2 161)), (1, .int (0 : Int32)), (2, .int (0 : Int32))]) S.1 S.2.1 dX9_placeOf_69 hl (k := 1) rfl (by decide) (by decide) rfl (fun ls hl => ?_)
          refine lv_goto (tgt := 5) S.1 S.2.1 dX9_placeOf_72 (by decide) ?_
          exact kJ_7 ((((0 : Int32) + pl1M d 40 0 0) + pl1M d 40 0 1) + (0 : Int32)) _ _ _ _ _ ⟨(show ((((0 : Int32) + pl1M d 40 0 0) + pl1M d 40 0 1) + (0 : Int32)) = (((0 : Int32) + pl1M d 40 0 0) + pl1M d 40 0 1) + pl1M d 40 0 2 by first | (simp [pl1M, c_8]; done) | (clear S hX G hl; grind [pl1M])), rfl, rfl⟩ G (lv_sub hl [0, 1, 2, 3, 4] rfl)
        · refine lv_aload_n S.1 S.2.1 dX9_placeOf_22 rfl (lv_at hl 2 rfl) ?_
          refine s_get S hX G (i := 161) (kd := 9) (a := (I 161)) (v := .ref (E.2.2.2 162)) (C := RX9) (T := TX9) (N := 13) 0 (rfl : sh 161 = 9) rfl rfl rfl (by decide) rfl (fun _ h => (List.mem_cons_of_mem _ (List.mem_append_right _ h))) (by decide) (List.mem_of_getElem? (i := 1) rfl) (fun _ h => h) dX9_placeOf_23 ?_
          refine lv_iload_n S.1 S.2.1 dX9_placeOf_26 rfl (lv_at hl 3 rfl) ?_
          refine s_callS (As := [.int (0 : Int32)]) (rest := [.ref (E.2.2.2 162), .int (((0 : Int32) + pl1M d 40 0 0) + pl1M d 40 0 1)]) S hX G (k_X9_loadAt_0 l E) (va_cwS (bytes := cX9_loadAt) (maxL := 1) (ret := (some .int)) 1 S.2.2.2.2 gX9_placeOf_X9_loadAt rfl rfl rfl (by decide +kernel) ⟨Nat.le_of_ble_eq_true rfl, Nat.le_of_ble_eq_true rfl⟩) rfl hl.1 rfl (Nat.le_of_ble_eq_true rfl) ⟨Nat.zero_le _, Nat.zero_le _⟩ dX9_placeOf_27 (fun v I1 L1 H locs hR G => ?_)
          obtain ⟨hv, hI, hL⟩ := hR
          subst hv
          have G : GS E I L sg H locs := G.same hI hL
          refine W.eq (g2 := F0 mg 30 ls [.int (40 : Int32), .ref (E.2.2.2 162), .int (((0 : Int32) + pl1M d 40 0 0) + pl1M d 40 0 1)]) rfl ?_
          refine lv_bipush (v := (12 : Int32)) S.1 S.2.1 dX9_placeOf_30 (by decide) ?_
          refine s_iadd (v := (52 : Int32)) S dX9_placeOf_32 (by decide) ?_
          refine lv_iconst (v := (3 : Int32)) S.1 S.2.1 dX9_placeOf_33 (by decide) ?_
          refine lv_iload S.1 S.2.1 dX9_placeOf_34 (lv_at hl 0 rfl) ?_
          refine s_imul (v := (6 : Int32)) S dX9_placeOf_36 (by decide) ?_
          refine s_iadd (v := (58 : Int32)) S dX9_placeOf_37 (by decide) ?_
          refine lv_iconst (v := (2 : Int32)) S.1 S.2.1 dX9_placeOf_38 (by decide) ?_
          refine s_iadd (v := (60 : Int32)) S dX9_placeOf_39 (by decide) ?_
          refine s_iald S hX G (i := 162) (kd := 284) (n := 270) (a := d) (x := (d 60)) (rfl : sh 162 = 284) e_d rfl (by decide) (by unfold vp_in; decide) (congrArg d (by decide)) dX9_placeOf_40 ?_
          refine lv_aload_n S.1 S.2.1 dX9_placeOf_41 rfl (lv_at hl 2 rfl) ?_
          refine s_get S hX G (i := 161) (kd := 9) (a := (I 161)) (v := .ref (E.2.2.2 162)) (C := RX9) (T := TX9) (N := 13) 0 (rfl : sh 161 = 9) rfl rfl rfl (by decide) rfl (fun _ h => (List.mem_cons_of_mem _ (List.mem_append_right _ h))) (by decide) (List.mem_of_getElem? (i := 1) rfl) (fun _ h => h) dX9_placeOf_42 ?_
          refine lv_iload_n S.1 S.2.1 dX9_placeOf_45 rfl (lv_at hl 3 rfl) ?_
          refine s_callS (As := [.int (0 : Int32)]) (rest := [.ref (E.2.2.2 162), .int (d 60), .int (((0 : Int32) + pl1M d 40 0 0) + pl1M d 40 0 1)]) S hX G (k_X9_loadAt_0 l E) (va_cwS (bytes := cX9_loadAt) (maxL := 1) (ret := (some .int)) 1 S.2.2.2.2 gX9_placeOf_X9_loadAt rfl rfl rfl (by decide +kernel) ⟨Nat.le_of_ble_eq_true rfl, Nat.le_of_ble_eq_true rfl⟩) rfl hl.1 rfl (Nat.le_of_ble_eq_true rfl) ⟨Nat.zero_le _, Nat.zero_le _⟩ dX9_placeOf_46 (fun v I1 L1 H locs hR G => ?_)
          obtain ⟨hv, hI, hL⟩ := hR
          subst hv
          have G : GS E I L sg H locs := G.same hI hL
          refine W.eq (g2 := F0 mg 49 ls [.int (40 : Int32), .ref (E.2.2.2 162), .int (d 60), .int (((0 : Int32) + pl1M d 40 0 0) + pl1M d 40 0 1)]) rfl ?_
          refine lv_bipush (v := (12 : Int32)) S.1 S.2.1 dX9_placeOf_49 (by decide) ?_
          refine s_iadd (v := (52 : Int32)) S dX9_placeOf_51 (by decide) ?_
          refine lv_iconst (v := (3 : Int32)) S.1 S.2.1 dX9_placeOf_52 (by decide) ?_
          refine lv_iload_n S.1 S.2.1 dX9_placeOf_53 rfl (lv_at hl 4 rfl) ?_
          refine s_imul (v := (0 : Int32)) S dX9_placeOf_54 (by decide) ?_
          refine s_iadd (v := (52 : Int32)) S dX9_placeOf_55 (by decide) ?_
          refine lv_iconst (v := (2 : Int32)) S.1 S.2.1 dX9_placeOf_56 (by decide) ?_
          refine s_iadd (v := (54 : Int32)) S dX9_placeOf_57 (by decide) ?_
          refine s_iald S hX G (i := 162) (kd := 284) (n := 270) (a := d) (x := (d 54)) (rfl : sh 162 = 284) e_d rfl (by decide) (by unfold vp_in; decide) (congrArg d (by decide)) dX9_placeOf_58 ?_
          refine lv_icmp_ge (tgt := 66) S.1 S.2.1 dX9_placeOf_59 (by decide) (fun c_9 => ?_) (fun c_9 => ?_)
          · refine lv_iconst (v := (0 : Int32)) S.1 S.2.1 dX9_placeOf_66 (by decide) ?_
            refine s_iadd (v := ((((0 : Int32) + pl1M d 40 0 0) + pl1M d 40 0 1) + (0 : Int32))) S dX9_placeOf_67 rfl ?_
            refine lv_istore_n (lv' := [(3, .int ((((0 : Int32) + pl1M d 40 0 0) + pl1M d 40 0 1) + (0 : Int32))), (4, .int (2 : Int32)), (0, .ref (E.2.2.2 161)), (1, .int (0 : Int32)), (2, .int (0 : Int32))]) S.1 S.2.1 dX9_placeOf_68 rfl hl (by decide) rfl (fun ls hl => ?_)
            refine lv_iinc (v := (3 : Int32)) (lv' := [(4, .int (3 : Int32)), (3, .int ((((0 : Int32) + pl1M d 40 0 0) + pl1M d 40 0 1) + (0 : Int32))), (0, .ref (E.2.2.2 161)), (1, .int (0 : Int32)), (2, .int (0 : Int32))]) S.1 S.2.1 dX9_placeOf_69 hl (k := 1) rfl (by decide) (by decide) rfl (fun ls hl => ?_)
            refine lv_goto (tgt := 5) S.1 S.2.1 dX9_placeOf_72 (by decide) ?_
            exact kJ_7 ((((0 : Int32) + pl1M d 40 0 0) + pl1M d 40 0 1) + (0 : Int32)) _ _ _ _ _ ⟨(show ((((0 : Int32) + pl1M d 40 0 0) + pl1M d 40 0 1) + (0 : Int32)) = (((0 : Int32) + pl1M d 40 0 0) + pl1M d 40 0 1) + pl1M d 40 0 2 by first | (simp [pl1M, c_8, c_9]; done) | (clear S hX G hl; grind [pl1M])), rfl, rfl⟩ G (lv_sub hl [0, 1, 2, 3, 4] rfl)
          · refine lv_iconst (v := (1 : Int32)) S.1 S.2.1 dX9_placeOf_62 (by decide) ?_
            refine lv_goto (tgt := 67) S.1 S.2.1 dX9_placeOf_63 (by decide) ?_
            refine s_iadd (v := ((((0 : Int32) + pl1M d 40 0 0) + pl1M d 40 0 1) + (1 : Int32))) S dX9_placeOf_67 rfl ?_
            refine lv_istore_n (lv' := [(3, .int ((((0 : Int32) + pl1M d 40 0 0) + pl1M d 40 0 1) + (1 : Int32))), (4, .int (2 : Int32)), (0, .ref (E.2.2.2 161)), (1, .int (0 : Int32)), (2, .int (0 : Int32))]) S.1 S.2.1 dX9_placeOf_68 rfl hl (by decide) rfl (fun ls hl => ?_)
            refine lv_iinc (v := (3 : Int32)) (lv' := [(4, .int (3 : Int32)), (3, .int ((((0 : Int32) + pl1M d 40 0 0) + pl1M d 40 0 1) + (1 : Int32))), (0, .ref (E.2.2.2 161)), (1, .int (0 : Int32)), (2, .int (0 : Int32))]) S.1 S.2.1 dX9_placeOf_69 hl (k := 1) rfl (by decide) (by decide) rfl (fun ls hl => ?_)
            refine lv_goto (tgt := 5) S.1 S.2.1 dX9_placeOf_72 (by decide) ?_
            exact kJ_7 ((((0 : Int32) + pl1M d 40 0 0) + pl1M d 40 0 1) + (1 : Int32)) _ _ _ _ _ ⟨(show ((((0 : Int32) + pl1M d 40 0 0) + pl1M d 40 0 1) + (1 : Int32)) = (((0 : Int32) + pl1M d 40 0 0) + pl1M d 40 0 1) + pl1M d 40 0 2 by first | (simp [pl1M, c_8, c_9]; done) | (clear S hX G hl; grind [pl1M])), rfl, rfl⟩ G (lv_sub hl [0, 1, 2, 3, 4] rfl)
      · obtain ⟨h0, hI, hL⟩ := hP
        have h0 : x = ((((0 : Int32) + pl1M d 40 0 0) + pl1M d 40 0 1) + pl1M d 40 0 2) := h0
        have hl : lv_has ls 5 [(4, .int (3 : Int32)), (3, .int x), (0, .ref (E.2.2.2 161)), (1, .int (0 : Int32)), (2, .int (0 : Int32))] := hl
        subst h0
        have G : GS E I L sg H locs := G.same hI hL
        refine W.eq (g2 := F0 mg 5 ls []) rfl ?_
        refine lv_iload S.1 S.2.1 dX9_placeOf_5 (lv_at hl 0 rfl) ?_
        refine lv_iconst (v := (3 : Int32)) S.1 S.2.1 dX9_placeOf_7 (by decide) ?_
        refine lv_icmp_ge (tgt := 75) S.1 S.2.1 dX9_placeOf_8 (by decide) (fun _ => ?_) (fun h => absurd (by decide) h)
        refine lv_iload_n S.1 S.2.1 dX9_placeOf_75 rfl (lv_at hl 1 rfl) ?_
        refine s_iret (x := ((((0 : Int32) + pl1M d 40 0 0) + pl1M d 40 0 1) + pl1M d 40 0 2)) S G hr hlk dX9_placeOf_76 ?_
        exact ⟨(congrArg (fun q : Int32 => some (Value.int q)) (show ((((0 : Int32) + pl1M d 40 0 0) + pl1M d 40 0 1) + pl1M d 40 0 2) = (plcM d 40 0) by rfl)), rfl, rfl⟩
set_option maxHeartbeats 4000000 in
set_option maxRecDepth 100000 in
theorem k_X9_canClear_0_0 (l : Launch) (E : Ev) {I : SI} {L : SL} (d : Nat → Int32) (e_d : I (162) = d) : CS l yX9_canClear wsX9_canClear ({ frames := 3, cells := 0, slots := 0, locals := 66 }) E [.ref (E.2.2.2 161), .int (0 : Int32), .int (0 : Int32)] I L (fun vv I' L' => vv = some (.int (if ¬ d 52 = -1 ∧ ¬ ¬ plcM d 40 0 ≤ 0 ∧ absM (d 44) < d 3 then 1 else 0)) ∧ I' = I ∧ L' = L) := by
  refine CS.of (cc := cX9_canClear) (maxL := 3) (ret := (some .boolean)) (by decide) rfl (Nat.le_of_ble_eq_true rfl) ?_
  intro pg en sg mg below meth cg ls S hr hlk hX G hl
  have S : CallFix pg mg cg cX9_canClear 3 sg _ wsX9_canClear RX9 := S
  have hl : lv_has ls 3 [(0, .ref (E.2.2.2 161)), (1, .int (0 : Int32)), (2, .int (0 : Int32))] := hl
  refine lv_aload_n S.1 S.2.1 dX9_canClear_0 rfl (lv_at hl 0 rfl) ?_
  refine lv_iload_n S.1 S.2.1 dX9_canClear_1 rfl (lv_at hl 1 rfl) ?_
  refine lv_iload_n S.1 S.2.1 dX9_canClear_2 rfl (lv_at hl 2 rfl) ?_
  refine s_callV (C := RX9) (As := [.int (0 : Int32), .int (0 : Int32)]) (rest := []) (i := 161) (kd := 9) S hX G (k_X9_isLatched_0_0 l E d e_d) (cwV (bytes := cX9_isLatched) (maxL := 3) (ret := (some .boolean)) 2 S.2.2.2.2 gX9_canClear_X9_isLatched rfl rfl rfl (by decide +kernel) ⟨Nat.le_of_ble_eq_true rfl, Nat.le_of_ble_eq_true rfl⟩) (rfl : sh 161 = 9) rfl rfl rfl (by decide) rfl hl.1 rfl (Nat.le_of_ble_eq_true rfl) ⟨Nat.zero_le _, Nat.zero_le _⟩ dX9_canClear_3 (fun v I1 L1 H locs hR G => ?_)
  obtain ⟨hv, hI, hL⟩ := hR
  subst hv
  have G : GS E I L sg H locs := G.same hI hL
  refine W.eq (g2 := F0 mg 6 ls [.int (if ¬ d 52 = -1 then 1 else 0)]) rfl ?_
  refine s_if_eq_b (P := ¬ d 52 = -1) (tgt := 18) S dX9_canClear_6 (by decide) (fun c_1 => ?_) (fun c_1 => ?_)
  · refine lv_iconst (v := (0 : Int32)) S.1 S.2.1 dX9_canClear_18 (by decide) ?_
    refine s_zret (x := (0 : Int32)) S G hr hlk dX9_canClear_19 (Or.inl rfl) ?_
    exact ⟨(congrArg (fun q : Int32 => some (Value.int q)) (show (0 : Int32) = (if ¬ d 52 = -1 ∧ ¬ ¬ plcM d 40 0 ≤ 0 ∧ absM (d 44) < d 3 then 1 else 0) by first | (simp [c_1]; done) | (clear S hX G hl; grind))), rfl, rfl⟩
  · refine lv_aload_n S.1 S.2.1 dX9_canClear_9 rfl (lv_at hl 0 rfl) ?_
    refine lv_iload_n S.1 S.2.1 dX9_canClear_10 rfl (lv_at hl 1 rfl) ?_
    refine lv_iload_n S.1 S.2.1 dX9_canClear_11 rfl (lv_at hl 2 rfl) ?_
    refine s_callV (C := RX9) (As := [.int (0 : Int32), .int (0 : Int32)]) (rest := []) (i := 161) (kd := 9) S hX G (k_X9_placeOf_0_0 l E d e_d) (cwV (bytes := cX9_placeOf) (maxL := 5) (ret := (some .int)) 2 S.2.2.2.2 gX9_canClear_X9_placeOf rfl rfl rfl (by decide +kernel) ⟨Nat.le_of_ble_eq_true rfl, Nat.le_of_ble_eq_true rfl⟩) (rfl : sh 161 = 9) rfl rfl rfl (by decide) rfl hl.1 rfl (Nat.le_of_ble_eq_true rfl) ⟨Nat.zero_le _, Nat.zero_le _⟩ dX9_canClear_12 (fun v I1 L1 H locs hR G => ?_)
    obtain ⟨hv, hI, hL⟩ := hR
    subst hv
    have G : GS E I L sg H locs := G.same hI hL
    refine W.eq (g2 := F0 mg 15 ls [.int (plcM d 40 0)]) rfl ?_
    refine lv_topi (fun y_2 ey_2 => ?_)
    refine lv_if_le (tgt := 20) S.1 S.2.1 dX9_canClear_15 (by decide) (fun c_3 => ?_) (fun c_3 => ?_)
    · refine lv_iload_n S.1 S.2.1 dX9_canClear_20 rfl (lv_at hl 2 rfl) ?_
      refine lv_if_ne (tgt := 46) S.1 S.2.1 dX9_canClear_21 (by decide) (fun h => absurd (by decide) h) (fun _ => ?_)
      refine lv_aload_n S.1 S.2.1 dX9_canClear_24 rfl (lv_at hl 0 rfl) ?_
      refine lv_iload_n S.1 S.2.1 dX9_canClear_25 rfl (lv_at hl 1 rfl) ?_
      refine s_callV (C := RX9) (As := [.int (0 : Int32)]) (rest := []) (i := 161) (kd := 9) S hX G (k_X9_sizeOf_0 l E d e_d) (cwV (bytes := cX9_sizeOf) (maxL := 3) (ret := (some .int)) 1 S.2.2.2.2 gX9_canClear_X9_sizeOf rfl rfl rfl (by decide +kernel) ⟨Nat.le_of_ble_eq_true rfl, Nat.le_of_ble_eq_true rfl⟩) (rfl : sh 161 = 9) rfl rfl rfl (by decide) rfl hl.1 rfl (Nat.le_of_ble_eq_true rfl) ⟨Nat.zero_le _, Nat.zero_le _⟩ dX9_canClear_26 (fun v I1 L1 H locs hR G => ?_)
      obtain ⟨hv, hI, hL⟩ := hR
      subst hv
      have G : GS E I L sg H locs := G.same hI hL
      refine W.eq (g2 := F0 mg 29 ls [.int (absM (d 44))]) rfl ?_
      refine lv_topi (fun y_4 ey_4 => ?_)
      refine lv_aload_n S.1 S.2.1 dX9_canClear_29 rfl (lv_at hl 0 rfl) ?_
      refine s_get S hX G (i := 161) (kd := 9) (a := (I 161)) (v := .ref (E.2.2.2 162)) (C := RX9) (T := TX9) (N := 13) 0 (rfl : sh 161 = 9) rfl rfl rfl (by decide) rfl (fun _ h => (List.mem_cons_of_mem _ (List.mem_append_right _ h))) (by decide) (List.mem_of_getElem? (i := 1) rfl) (fun _ h => h) dX9_canClear_30 ?_
      refine lv_iconst (v := (3 : Int32)) S.1 S.2.1 dX9_canClear_33 (by decide) ?_
      refine s_iald S hX G (i := 162) (kd := 284) (n := 270) (a := d) (x := (d 3)) (rfl : sh 162 = 284) e_d rfl (by decide) (by unfold vp_in; decide) (congrArg d (by decide)) dX9_canClear_34 ?_
      refine lv_icmp_ge (tgt := 42) S.1 S.2.1 dX9_canClear_35 (by decide) (fun c_5 => ?_) (fun c_5 => ?_)
      · refine lv_iconst (v := (0 : Int32)) S.1 S.2.1 dX9_canClear_42 (by decide) ?_
        refine lv_goto (tgt := 78) S.1 S.2.1 dX9_canClear_43 (by decide) ?_
        refine s_zret (x := (0 : Int32)) S G hr hlk dX9_canClear_78 (Or.inl rfl) ?_
        exact ⟨(congrArg (fun q : Int32 => some (Value.int q)) (show (0 : Int32) = (if ¬ d 52 = -1 ∧ ¬ ¬ plcM d 40 0 ≤ 0 ∧ absM (d 44) < d 3 then 1 else 0) by subst ey_4 ey_2; (first | (simp [c_1, c_3, c_5]; done) | (clear S hX G hl; grind)))), rfl, rfl⟩
      · refine lv_iconst (v := (1 : Int32)) S.1 S.2.1 dX9_canClear_38 (by decide) ?_
        refine lv_goto (tgt := 78) S.1 S.2.1 dX9_canClear_39 (by decide) ?_
        refine s_zret (x := (1 : Int32)) S G hr hlk dX9_canClear_78 (Or.inr rfl) ?_
        exact ⟨(congrArg (fun q : Int32 => some (Value.int q)) (show (1 : Int32) = (if ¬ d 52 = -1 ∧ ¬ ¬ plcM d 40 0 ≤ 0 ∧ absM (d 44) < d 3 then 1 else 0) by subst ey_4 ey_2; (first | (simp [c_1, c_3, c_5]; done) | (clear S hX G hl; grind)))), rfl, rfl⟩
    · refine lv_iconst (v := (0 : Int32)) S.1 S.2.1 dX9_canClear_18 (by decide) ?_
      refine s_zret (x := (0 : Int32)) S G hr hlk dX9_canClear_19 (Or.inl rfl) ?_
      exact ⟨(congrArg (fun q : Int32 => some (Value.int q)) (show (0 : Int32) = (if ¬ d 52 = -1 ∧ ¬ ¬ plcM d 40 0 ≤ 0 ∧ absM (d 44) < d 3 then 1 else 0) by subst ey_2; (first | (simp [c_1, c_3]; done) | (clear S hX G hl; grind)))), rfl, rfl⟩
set_option maxHeartbeats 4000000 in
set_option maxRecDepth 100000 in
theorem k_X9_placeOf_0_1 (l : Launch) (E : Ev) {I : SI} {L : SL} (d : Nat → Int32) (e_d : I (162) = d) : CS l yX9_placeOf wsX9_placeOf ({ frames := 2, cells := 0, slots := 0, locals := 42 }) E [.ref (E.2.2.2 161), .int (0 : Int32), .int (1 : Int32)] I L (fun vv I' L' => vv = some (.int (plcM d 40 1)) ∧ I' = I ∧ L' = L) := by
  refine CS.of (cc := cX9_placeOf) (maxL := 5) (ret := (some .int)) (by decide) rfl (Nat.le_of_ble_eq_true rfl) ?_
  intro pg en sg mg below meth cg ls S hr hlk hX G hl
  have S : CallFix pg mg cg cX9_placeOf 5 sg _ wsX9_placeOf RX9 := S
  have hl : lv_has ls 5 [(0, .ref (E.2.2.2 161)), (1, .int (0 : Int32)), (2, .int (1 : Int32))] := hl
  refine lv_iconst (v := (0 : Int32)) S.1 S.2.1 dX9_placeOf_0 (by decide) ?_
  refine lv_istore_n (lv' := [(3, .int (0 : Int32)), (0, .ref (E.2.2.2 161)), (1, .int (0 : Int32)), (2, .int (1 : Int32))]) S.1 S.2.1 dX9_placeOf_1 rfl hl (by decide) rfl (fun ls hl => ?_)
  refine lv_iconst (v := (0 : Int32)) S.1 S.2.1 dX9_placeOf_2 (by decide) ?_
  refine lv_istore (lv' := [(4, .int (0 : Int32)), (3, .int (0 : Int32)), (0, .ref (E.2.2.2 161)), (1, .int (0 : Int32)), (2, .int (1 : Int32))]) S.1 S.2.1 dX9_placeOf_3 hl (by decide) rfl (fun ls hl => ?_)
  refine s_cut (α := Int32) (nL := 5) (E := E) (fun x I' L' => x = ((0 : Int32) + pl1M d 40 1 0) ∧ I' = I ∧ L' = L) (fun x => [(4, .int (1 : Int32)), (3, .int x), (0, .ref (E.2.2.2 161)), (1, .int (0 : Int32)), (2, .int (1 : Int32))]) 5 (fun x => []) (fun kJ_1 => ?_) (fun x I1 L1 H locs ls hP G hl => ?_)
  · refine lv_iload S.1 S.2.1 dX9_placeOf_5 (lv_at hl 0 rfl) ?_
    refine lv_iconst (v := (3 : Int32)) S.1 S.2.1 dX9_placeOf_7 (by decide) ?_
    refine lv_icmp_ge (tgt := 75) S.1 S.2.1 dX9_placeOf_8 (by decide) (fun h => absurd h (by decide)) (fun _ => ?_)
    refine lv_iload_n S.1 S.2.1 dX9_placeOf_11 rfl (lv_at hl 1 rfl) ?_
    refine lv_aload_n S.1 S.2.1 dX9_placeOf_12 rfl (lv_at hl 2 rfl) ?_
    refine lv_iload_n S.1 S.2.1 dX9_placeOf_13 rfl (lv_at hl 3 rfl) ?_
    refine lv_iload S.1 S.2.1 dX9_placeOf_14 (lv_at hl 0 rfl) ?_
    refine s_callV (C := RX9) (As := [.int (0 : Int32), .int (0 : Int32)]) (rest := [.int (0 : Int32)]) (i := 161) (kd := 9) S hX G (k_X9_isLatched_0_0 l E d e_d) (cwV (bytes := cX9_isLatched) (maxL := 3) (ret := (some .boolean)) 2 S.2.2.2.2 gX9_placeOf_X9_isLatched rfl rfl rfl (by decide +kernel) ⟨Nat.le_of_ble_eq_true rfl, Nat.le_of_ble_eq_true rfl⟩) (rfl : sh 161 = 9) rfl rfl rfl (by decide) rfl hl.1 rfl (Nat.le_of_ble_eq_true rfl) ⟨Nat.zero_le _, Nat.zero_le _⟩ dX9_placeOf_16 (fun v I1 L1 H locs hR G => ?_)
    obtain ⟨hv, hI, hL⟩ := hR
    subst hv
    have G : GS E I L sg H locs := G.same hI hL
    refine W.eq (g2 := F0 mg 19 ls [.int (if ¬ d 52 = -1 then 1 else 0), .int (0 : Int32)]) rfl ?_
    refine s_if_eq_b (P := ¬ d 52 = -1) (tgt := 66) S dX9_placeOf_19 (by decide) (fun c_2 => ?_) (fun c_2 => ?_)
    · refine lv_iconst (v := (0 : Int32)) S.1 S.2.1 dX9_placeOf_66 (by decide) ?_
      refine s_iadd (v := (0 : Int32)) S dX9_placeOf_67 (by decide) ?_
      refine lv_istore_n (lv' := [(3, .int (0 : Int32)), (4, .int (0 : Int32)), (0, .ref (E.2.2.2 161)), (1, .int (0 : Int32)), (2, .int (1 : Int32))]) S.1 S.2.1 dX9_placeOf_68 rfl hl (by decide) rfl (fun ls hl => ?_)
      refine lv_iinc (v := (1 : Int32)) (lv' := [(4, .int (1 : Int32)), (3, .int (0 : Int32)), (0, .ref (E.2.2.2 161)), (1, .int (0 : Int32)), (2, .int (1 : Int32))]) S.1 S.2.1 dX9_placeOf_69 hl (k := 1) rfl (by decide) (by decide) rfl (fun ls hl => ?_)
      refine lv_goto (tgt := 5) S.1 S.2.1 dX9_placeOf_72 (by decide) ?_
      exact kJ_1 (0 : Int32) _ _ _ _ _ ⟨(show (0 : Int32) = (0 : Int32) + pl1M d 40 1 0 by first | (simp [pl1M, c_2]; done) | (clear S hX G hl; grind [pl1M])), rfl, rfl⟩ G (lv_sub hl [0, 1, 2, 3, 4] rfl)
    · refine lv_aload_n S.1 S.2.1 dX9_placeOf_22 rfl (lv_at hl 2 rfl) ?_
      refine s_get S hX G (i := 161) (kd := 9) (a := (I 161)) (v := .ref (E.2.2.2 162)) (C := RX9) (T := TX9) (N := 13) 0 (rfl : sh 161 = 9) rfl rfl rfl (by decide) rfl (fun _ h => (List.mem_cons_of_mem _ (List.mem_append_right _ h))) (by decide) (List.mem_of_getElem? (i := 1) rfl) (fun _ h => h) dX9_placeOf_23 ?_
      refine lv_iload_n S.1 S.2.1 dX9_placeOf_26 rfl (lv_at hl 3 rfl) ?_
      refine s_callS (As := [.int (0 : Int32)]) (rest := [.ref (E.2.2.2 162), .int (0 : Int32)]) S hX G (k_X9_loadAt_0 l E) (va_cwS (bytes := cX9_loadAt) (maxL := 1) (ret := (some .int)) 1 S.2.2.2.2 gX9_placeOf_X9_loadAt rfl rfl rfl (by decide +kernel) ⟨Nat.le_of_ble_eq_true rfl, Nat.le_of_ble_eq_true rfl⟩) rfl hl.1 rfl (Nat.le_of_ble_eq_true rfl) ⟨Nat.zero_le _, Nat.zero_le _⟩ dX9_placeOf_27 (fun v I1 L1 H locs hR G => ?_)
      obtain ⟨hv, hI, hL⟩ := hR
      subst hv
      have G : GS E I L sg H locs := G.same hI hL
      refine W.eq (g2 := F0 mg 30 ls [.int (40 : Int32), .ref (E.2.2.2 162), .int (0 : Int32)]) rfl ?_
      refine lv_bipush (v := (12 : Int32)) S.1 S.2.1 dX9_placeOf_30 (by decide) ?_
      refine s_iadd (v := (52 : Int32)) S dX9_placeOf_32 (by decide) ?_
      refine lv_iconst (v := (3 : Int32)) S.1 S.2.1 dX9_placeOf_33 (by decide) ?_
      refine lv_iload S.1 S.2.1 dX9_placeOf_34 (lv_at hl 0 rfl) ?_
      refine s_imul (v := (0 : Int32)) S dX9_placeOf_36 (by decide) ?_
      refine s_iadd (v := (52 : Int32)) S dX9_placeOf_37 (by decide) ?_
      refine lv_iconst (v := (2 : Int32)) S.1 S.2.1 dX9_placeOf_38 (by decide) ?_
      refine s_iadd (v := (54 : Int32)) S dX9_placeOf_39 (by decide) ?_
      refine s_iald S hX G (i := 162) (kd := 284) (n := 270) (a := d) (x := (d 54)) (rfl : sh 162 = 284) e_d rfl (by decide) (by unfold vp_in; decide) (congrArg d (by decide)) dX9_placeOf_40 ?_
      refine lv_aload_n S.1 S.2.1 dX9_placeOf_41 rfl (lv_at hl 2 rfl) ?_
      refine s_get S hX G (i := 161) (kd := 9) (a := (I 161)) (v := .ref (E.2.2.2 162)) (C := RX9) (T := TX9) (N := 13) 0 (rfl : sh 161 = 9) rfl rfl rfl (by decide) rfl (fun _ h => (List.mem_cons_of_mem _ (List.mem_append_right _ h))) (by decide) (List.mem_of_getElem? (i := 1) rfl) (fun _ h => h) dX9_placeOf_42 ?_
      refine lv_iload_n S.1 S.2.1 dX9_placeOf_45 rfl (lv_at hl 3 rfl) ?_
      refine s_callS (As := [.int (0 : Int32)]) (rest := [.ref (E.2.2.2 162), .int (d 54), .int (0 : Int32)]) S hX G (k_X9_loadAt_0 l E) (va_cwS (bytes := cX9_loadAt) (maxL := 1) (ret := (some .int)) 1 S.2.2.2.2 gX9_placeOf_X9_loadAt rfl rfl rfl (by decide +kernel) ⟨Nat.le_of_ble_eq_true rfl, Nat.le_of_ble_eq_true rfl⟩) rfl hl.1 rfl (Nat.le_of_ble_eq_true rfl) ⟨Nat.zero_le _, Nat.zero_le _⟩ dX9_placeOf_46 (fun v I1 L1 H locs hR G => ?_)
      obtain ⟨hv, hI, hL⟩ := hR
      subst hv
      have G : GS E I L sg H locs := G.same hI hL
      refine W.eq (g2 := F0 mg 49 ls [.int (40 : Int32), .ref (E.2.2.2 162), .int (d 54), .int (0 : Int32)]) rfl ?_
      refine lv_bipush (v := (12 : Int32)) S.1 S.2.1 dX9_placeOf_49 (by decide) ?_
      refine s_iadd (v := (52 : Int32)) S dX9_placeOf_51 (by decide) ?_
      refine lv_iconst (v := (3 : Int32)) S.1 S.2.1 dX9_placeOf_52 (by decide) ?_
      refine lv_iload_n S.1 S.2.1 dX9_placeOf_53 rfl (lv_at hl 4 rfl) ?_
      refine s_imul (v := (3 : Int32)) S dX9_placeOf_54 (by decide) ?_
      refine s_iadd (v := (55 : Int32)) S dX9_placeOf_55 (by decide) ?_
      refine lv_iconst (v := (2 : Int32)) S.1 S.2.1 dX9_placeOf_56 (by decide) ?_
      refine s_iadd (v := (57 : Int32)) S dX9_placeOf_57 (by decide) ?_
      refine s_iald S hX G (i := 162) (kd := 284) (n := 270) (a := d) (x := (d 57)) (rfl : sh 162 = 284) e_d rfl (by decide) (by unfold vp_in; decide) (congrArg d (by decide)) dX9_placeOf_58 ?_
      refine lv_icmp_ge (tgt := 66) S.1 S.2.1 dX9_placeOf_59 (by decide) (fun c_3 => ?_) (fun c_3 => ?_)
      · refine lv_iconst (v := (0 : Int32)) S.1 S.2.1 dX9_placeOf_66 (by decide) ?_
        refine s_iadd (v := (0 : Int32)) S dX9_placeOf_67 (by decide) ?_
        refine lv_istore_n (lv' := [(3, .int (0 : Int32)), (4, .int (0 : Int32)), (0, .ref (E.2.2.2 161)), (1, .int (0 : Int32)), (2, .int (1 : Int32))]) S.1 S.2.1 dX9_placeOf_68 rfl hl (by decide) rfl (fun ls hl => ?_)
        refine lv_iinc (v := (1 : Int32)) (lv' := [(4, .int (1 : Int32)), (3, .int (0 : Int32)), (0, .ref (E.2.2.2 161)), (1, .int (0 : Int32)), (2, .int (1 : Int32))]) S.1 S.2.1 dX9_placeOf_69 hl (k := 1) rfl (by decide) (by decide) rfl (fun ls hl => ?_)
        refine lv_goto (tgt := 5) S.1 S.2.1 dX9_placeOf_72 (by decide) ?_
        exact kJ_1 (0 : Int32) _ _ _ _ _ ⟨(show (0 : Int32) = (0 : Int32) + pl1M d 40 1 0 by first | (simp [pl1M, c_2, c_3]; done) | (clear S hX G hl; grind [pl1M])), rfl, rfl⟩ G (lv_sub hl [0, 1, 2, 3, 4] rfl)
      · refine lv_iconst (v := (1 : Int32)) S.1 S.2.1 dX9_placeOf_62 (by decide) ?_
        refine lv_goto (tgt := 67) S.1 S.2.1 dX9_placeOf_63 (by decide) ?_
        refine s_iadd (v := (1 : Int32)) S dX9_placeOf_67 (by decide) ?_
        refine lv_istore_n (lv' := [(3, .int (1 : Int32)), (4, .int (0 : Int32)), (0, .ref (E.2.2.2 161)), (1, .int (0 : Int32)), (2, .int (1 : Int32))]) S.1 S.2.1 dX9_placeOf_68 rfl hl (by decide) rfl (fun ls hl => ?_)
        refine lv_iinc (v := (1 : Int32)) (lv' := [(4, .int (1 : Int32)), (3, .int (1 : Int32)), (0, .ref (E.2.2.2 161)), (1, .int (0 : Int32)), (2, .int (1 : Int32))]) S.1 S.2.1 dX9_placeOf_69 hl (k := 1) rfl (by decide) (by decide) rfl (fun ls hl => ?_)
        refine lv_goto (tgt := 5) S.1 S.2.1 dX9_placeOf_72 (by decide) ?_
        exact kJ_1 (1 : Int32) _ _ _ _ _ ⟨(show (1 : Int32) = (0 : Int32) + pl1M d 40 1 0 by first | (simp [pl1M, c_2, c_3]; done) | (clear S hX G hl; grind [pl1M])), rfl, rfl⟩ G (lv_sub hl [0, 1, 2, 3, 4] rfl)
  · obtain ⟨h0, hI, hL⟩ := hP
    have h0 : x = ((0 : Int32) + pl1M d 40 1 0) := h0
    have hl : lv_has ls 5 [(4, .int (1 : Int32)), (3, .int x), (0, .ref (E.2.2.2 161)), (1, .int (0 : Int32)), (2, .int (1 : Int32))] := hl
    subst h0
    have G : GS E I L sg H locs := G.same hI hL
    refine W.eq (g2 := F0 mg 5 ls []) rfl ?_
    refine s_cut (α := Int32) (nL := 5) (E := E) (fun x I' L' => x = (((0 : Int32) + pl1M d 40 1 0) + pl1M d 40 1 1) ∧ I' = I ∧ L' = L) (fun x => [(4, .int (2 : Int32)), (3, .int x), (0, .ref (E.2.2.2 161)), (1, .int (0 : Int32)), (2, .int (1 : Int32))]) 5 (fun x => []) (fun kJ_4 => ?_) (fun x I1 L1 H locs ls hP G hl => ?_)
    · refine lv_iload S.1 S.2.1 dX9_placeOf_5 (lv_at hl 0 rfl) ?_
      refine lv_iconst (v := (3 : Int32)) S.1 S.2.1 dX9_placeOf_7 (by decide) ?_
      refine lv_icmp_ge (tgt := 75) S.1 S.2.1 dX9_placeOf_8 (by decide) (fun h => absurd h (by decide)) (fun _ => ?_)
      refine lv_iload_n S.1 S.2.1 dX9_placeOf_11 rfl (lv_at hl 1 rfl) ?_
      refine lv_aload_n S.1 S.2.1 dX9_placeOf_12 rfl (lv_at hl 2 rfl) ?_
      refine lv_iload_n S.1 S.2.1 dX9_placeOf_13 rfl (lv_at hl 3 rfl) ?_
      refine lv_iload S.1 S.2.1 dX9_placeOf_14 (lv_at hl 0 rfl) ?_
      refine s_callV (C := RX9) (As := [.int (0 : Int32), .int (1 : Int32)]) (rest := [.int ((0 : Int32) + pl1M d 40 1 0)]) (i := 161) (kd := 9) S hX G (k_X9_isLatched_0_1 l E d e_d) (cwV (bytes := cX9_isLatched) (maxL := 3) (ret := (some .boolean)) 2 S.2.2.2.2 gX9_placeOf_X9_isLatched rfl rfl rfl (by decide +kernel) ⟨Nat.le_of_ble_eq_true rfl, Nat.le_of_ble_eq_true rfl⟩) (rfl : sh 161 = 9) rfl rfl rfl (by decide) rfl hl.1 rfl (Nat.le_of_ble_eq_true rfl) ⟨Nat.zero_le _, Nat.zero_le _⟩ dX9_placeOf_16 (fun v I1 L1 H locs hR G => ?_)
      obtain ⟨hv, hI, hL⟩ := hR
      subst hv
      have G : GS E I L sg H locs := G.same hI hL
      refine W.eq (g2 := F0 mg 19 ls [.int (if ¬ d 55 = -1 then 1 else 0), .int ((0 : Int32) + pl1M d 40 1 0)]) rfl ?_
      refine s_if_eq_b (P := ¬ d 55 = -1) (tgt := 66) S dX9_placeOf_19 (by decide) (fun c_5 => ?_) (fun c_5 => ?_)
      · refine lv_iconst (v := (0 : Int32)) S.1 S.2.1 dX9_placeOf_66 (by decide) ?_
        refine s_iadd (v := (((0 : Int32) + pl1M d 40 1 0) + (0 : Int32))) S dX9_placeOf_67 rfl ?_
        refine lv_istore_n (lv' := [(3, .int (((0 : Int32) + pl1M d 40 1 0) + (0 : Int32))), (4, .int (1 : Int32)), (0, .ref (E.2.2.2 161)), (1, .int (0 : Int32)), (2, .int (1 : Int32))]) S.1 S.2.1 dX9_placeOf_68 rfl hl (by decide) rfl (fun ls hl => ?_)
        refine lv_iinc (v := (2 : Int32)) (lv' := [(4, .int (2 : Int32)), (3, .int (((0 : Int32) + pl1M d 40 1 0) + (0 : Int32))), (0, .ref (E.2.2.2 161)), (1, .int (0 : Int32)), (2, .int (1 : Int32))]) S.1 S.2.1 dX9_placeOf_69 hl (k := 1) rfl (by decide) (by decide) rfl (fun ls hl => ?_)
        refine lv_goto (tgt := 5) S.1 S.2.1 dX9_placeOf_72 (by decide) ?_
        exact kJ_4 (((0 : Int32) + pl1M d 40 1 0) + (0 : Int32)) _ _ _ _ _ ⟨(show (((0 : Int32) + pl1M d 40 1 0) + (0 : Int32)) = ((0 : Int32) + pl1M d 40 1 0) + pl1M d 40 1 1 by first | (simp [pl1M, c_5]; done) | (clear S hX G hl; grind [pl1M])), rfl, rfl⟩ G (lv_sub hl [0, 1, 2, 3, 4] rfl)
      · refine lv_aload_n S.1 S.2.1 dX9_placeOf_22 rfl (lv_at hl 2 rfl) ?_
        refine s_get S hX G (i := 161) (kd := 9) (a := (I 161)) (v := .ref (E.2.2.2 162)) (C := RX9) (T := TX9) (N := 13) 0 (rfl : sh 161 = 9) rfl rfl rfl (by decide) rfl (fun _ h => (List.mem_cons_of_mem _ (List.mem_append_right _ h))) (by decide) (List.mem_of_getElem? (i := 1) rfl) (fun _ h => h) dX9_placeOf_23 ?_
        refine lv_iload_n S.1 S.2.1 dX9_placeOf_26 rfl (lv_at hl 3 rfl) ?_
        refine s_callS (As := [.int (0 : Int32)]) (rest := [.ref (E.2.2.2 162), .int ((0 : Int32) + pl1M d 40 1 0)]) S hX G (k_X9_loadAt_0 l E) (va_cwS (bytes := cX9_loadAt) (maxL := 1) (ret := (some .int)) 1 S.2.2.2.2 gX9_placeOf_X9_loadAt rfl rfl rfl (by decide +kernel) ⟨Nat.le_of_ble_eq_true rfl, Nat.le_of_ble_eq_true rfl⟩) rfl hl.1 rfl (Nat.le_of_ble_eq_true rfl) ⟨Nat.zero_le _, Nat.zero_le _⟩ dX9_placeOf_27 (fun v I1 L1 H locs hR G => ?_)
        obtain ⟨hv, hI, hL⟩ := hR
        subst hv
        have G : GS E I L sg H locs := G.same hI hL
        refine W.eq (g2 := F0 mg 30 ls [.int (40 : Int32), .ref (E.2.2.2 162), .int ((0 : Int32) + pl1M d 40 1 0)]) rfl ?_
        refine lv_bipush (v := (12 : Int32)) S.1 S.2.1 dX9_placeOf_30 (by decide) ?_
        refine s_iadd (v := (52 : Int32)) S dX9_placeOf_32 (by decide) ?_
        refine lv_iconst (v := (3 : Int32)) S.1 S.2.1 dX9_placeOf_33 (by decide) ?_
        refine lv_iload S.1 S.2.1 dX9_placeOf_34 (lv_at hl 0 rfl) ?_
        refine s_imul (v := (3 : Int32)) S dX9_placeOf_36 (by decide) ?_
        refine s_iadd (v := (55 : Int32)) S dX9_placeOf_37 (by decide) ?_
        refine lv_iconst (v := (2 : Int32)) S.1 S.2.1 dX9_placeOf_38 (by decide) ?_
        refine s_iadd (v := (57 : Int32)) S dX9_placeOf_39 (by decide) ?_
        refine s_iald S hX G (i := 162) (kd := 284) (n := 270) (a := d) (x := (d 57)) (rfl : sh 162 = 284) e_d rfl (by decide) (by unfold vp_in; decide) (congrArg d (by decide)) dX9_placeOf_40 ?_
        refine lv_aload_n S.1 S.2.1 dX9_placeOf_41 rfl (lv_at hl 2 rfl) ?_
        refine s_get S hX G (i := 161) (kd := 9) (a := (I 161)) (v := .ref (E.2.2.2 162)) (C := RX9) (T := TX9) (N := 13) 0 (rfl : sh 161 = 9) rfl rfl rfl (by decide) rfl (fun _ h => (List.mem_cons_of_mem _ (List.mem_append_right _ h))) (by decide) (List.mem_of_getElem? (i := 1) rfl) (fun _ h => h) dX9_placeOf_42 ?_
        refine lv_iload_n S.1 S.2.1 dX9_placeOf_45 rfl (lv_at hl 3 rfl) ?_
        refine s_callS (As := [.int (0 : Int32)]) (rest := [.ref (E.2.2.2 162), .int (d 57), .int ((0 : Int32) + pl1M d 40 1 0)]) S hX G (k_X9_loadAt_0 l E) (va_cwS (bytes := cX9_loadAt) (maxL := 1) (ret := (some .int)) 1 S.2.2.2.2 gX9_placeOf_X9_loadAt rfl rfl rfl (by decide +kernel) ⟨Nat.le_of_ble_eq_true rfl, Nat.le_of_ble_eq_true rfl⟩) rfl hl.1 rfl (Nat.le_of_ble_eq_true rfl) ⟨Nat.zero_le _, Nat.zero_le _⟩ dX9_placeOf_46 (fun v I1 L1 H locs hR G => ?_)
        obtain ⟨hv, hI, hL⟩ := hR
        subst hv
        have G : GS E I L sg H locs := G.same hI hL
        refine W.eq (g2 := F0 mg 49 ls [.int (40 : Int32), .ref (E.2.2.2 162), .int (d 57), .int ((0 : Int32) + pl1M d 40 1 0)]) rfl ?_
        refine lv_bipush (v := (12 : Int32)) S.1 S.2.1 dX9_placeOf_49 (by decide) ?_
        refine s_iadd (v := (52 : Int32)) S dX9_placeOf_51 (by decide) ?_
        refine lv_iconst (v := (3 : Int32)) S.1 S.2.1 dX9_placeOf_52 (by decide) ?_
        refine lv_iload_n S.1 S.2.1 dX9_placeOf_53 rfl (lv_at hl 4 rfl) ?_
        refine s_imul (v := (3 : Int32)) S dX9_placeOf_54 (by decide) ?_
        refine s_iadd (v := (55 : Int32)) S dX9_placeOf_55 (by decide) ?_
        refine lv_iconst (v := (2 : Int32)) S.1 S.2.1 dX9_placeOf_56 (by decide) ?_
        refine s_iadd (v := (57 : Int32)) S dX9_placeOf_57 (by decide) ?_
        refine s_iald S hX G (i := 162) (kd := 284) (n := 270) (a := d) (x := (d 57)) (rfl : sh 162 = 284) e_d rfl (by decide) (by unfold vp_in; decide) (congrArg d (by decide)) dX9_placeOf_58 ?_
        refine lv_icmp_ge (tgt := 66) S.1 S.2.1 dX9_placeOf_59 (by decide) (fun c_6 => ?_) (fun c_6 => ?_)
        · refine lv_iconst (v := (0 : Int32)) S.1 S.2.1 dX9_placeOf_66 (by decide) ?_
          refine s_iadd (v := (((0 : Int32) + pl1M d 40 1 0) + (0 : Int32))) S dX9_placeOf_67 rfl ?_
          refine lv_istore_n (lv' := [(3, .int (((0 : Int32) + pl1M d 40 1 0) + (0 : Int32))), (4, .int (1 : Int32)), (0, .ref (E.2.2.2 161)), (1, .int (0 : Int32)), (2, .int (1 : Int32))]) S.1 S.2.1 dX9_placeOf_68 rfl hl (by decide) rfl (fun ls hl => ?_)
          refine lv_iinc (v := (2 : Int32)) (lv' := [(4, .int (2 : Int32)), (3, .int (((0 : Int32) + pl1M d 40 1 0) + (0 : Int32))), (0, .ref (E.2.2.2 161)), (1, .int (0 : Int32)), (2, .int (1 : Int32))]) S.1 S.2.1 dX9_placeOf_69 hl (k := 1) rfl (by decide) (by decide) rfl (fun ls hl => ?_)
          refine lv_goto (tgt := 5) S.1 S.2.1 dX9_placeOf_72 (by decide) ?_
          exact kJ_4 (((0 : Int32) + pl1M d 40 1 0) + (0 : Int32)) _ _ _ _ _ ⟨(show (((0 : Int32) + pl1M d 40 1 0) + (0 : Int32)) = ((0 : Int32) + pl1M d 40 1 0) + pl1M d 40 1 1 by first | (simp [pl1M, c_5, c_6]; done) | (clear S hX G hl; grind [pl1M])), rfl, rfl⟩ G (lv_sub hl [0, 1, 2, 3, 4] rfl)
        · refine lv_iconst (v := (1 : Int32)) S.1 S.2.1 dX9_placeOf_62 (by decide) ?_
          refine lv_goto (tgt := 67) S.1 S.2.1 dX9_placeOf_63 (by decide) ?_
          refine s_iadd (v := (((0 : Int32) + pl1M d 40 1 0) + (1 : Int32))) S dX9_placeOf_67 rfl ?_
          refine lv_istore_n (lv' := [(3, .int (((0 : Int32) + pl1M d 40 1 0) + (1 : Int32))), (4, .int (1 : Int32)), (0, .ref (E.2.2.2 161)), (1, .int (0 : Int32)), (2, .int (1 : Int32))]) S.1 S.2.1 dX9_placeOf_68 rfl hl (by decide) rfl (fun ls hl => ?_)
          refine lv_iinc (v := (2 : Int32)) (lv' := [(4, .int (2 : Int32)), (3, .int (((0 : Int32) + pl1M d 40 1 0) + (1 : Int32))), (0, .ref (E.2.2.2 161)), (1, .int (0 : Int32)), (2, .int (1 : Int32))]) S.1 S.2.1 dX9_placeOf_69 hl (k := 1) rfl (by decide) (by decide) rfl (fun ls hl => ?_)
          refine lv_goto (tgt := 5) S.1 S.2.1 dX9_placeOf_72 (by decide) ?_
          exact kJ_4 (((0 : Int32) + pl1M d 40 1 0) + (1 : Int32)) _ _ _ _ _ ⟨(show (((0 : Int32) + pl1M d 40 1 0) + (1 : Int32)) = ((0 : Int32) + pl1M d 40 1 0) + pl1M d 40 1 1 by first | (simp [pl1M, c_5, c_6]; done) | (clear S hX G hl; grind [pl1M])), rfl, rfl⟩ G (lv_sub hl [0, 1, 2, 3, 4] rfl)
    · obtain ⟨h0, hI, hL⟩ := hP
      have h0 : x = (((0 : Int32) + pl1M d 40 1 0) + pl1M d 40 1 1) := h0
      have hl : lv_has ls 5 [(4, .int (2 : Int32)), (3, .int x), (0, .ref (E.2.2.2 161)), (1, .int (0 : Int32)), (2, .int (1 : Int32))] := hl
      subst h0
      have G : GS E I L sg H locs := G.same hI hL
      refine W.eq (g2 := F0 mg 5 ls []) rfl ?_
      refine s_cut (α := Int32) (nL := 5) (E := E) (fun x I' L' => x = ((((0 : Int32) + pl1M d 40 1 0) + pl1M d 40 1 1) + pl1M d 40 1 2) ∧ I' = I ∧ L' = L) (fun x => [(4, .int (3 : Int32)), (3, .int x), (0, .ref (E.2.2.2 161)), (1, .int (0 : Int32)), (2, .int (1 : Int32))]) 5 (fun x => []) (fun kJ_7 => ?_) (fun x I1 L1 H locs ls hP G hl => ?_)
      · refine lv_iload S.1 S.2.1 dX9_placeOf_5 (lv_at hl 0 rfl) ?_
        refine lv_iconst (v := (3 : Int32)) S.1 S.2.1 dX9_placeOf_7 (by decide) ?_
        refine lv_icmp_ge (tgt := 75) S.1 S.2.1 dX9_placeOf_8 (by decide) (fun h => absurd h (by decide)) (fun _ => ?_)
        refine lv_iload_n S.1 S.2.1 dX9_placeOf_11 rfl (lv_at hl 1 rfl) ?_
        refine lv_aload_n S.1 S.2.1 dX9_placeOf_12 rfl (lv_at hl 2 rfl) ?_
        refine lv_iload_n S.1 S.2.1 dX9_placeOf_13 rfl (lv_at hl 3 rfl) ?_
        refine lv_iload S.1 S.2.1 dX9_placeOf_14 (lv_at hl 0 rfl) ?_
        refine s_callV (C := RX9) (As := [.int (0 : Int32), .int (2 : Int32)]) (rest := [.int (((0 : Int32) + pl1M d 40 1 0) + pl1M d 40 1 1)]) (i := 161) (kd := 9) S hX G (k_X9_isLatched_0_2 l E d e_d) (cwV (bytes := cX9_isLatched) (maxL := 3) (ret := (some .boolean)) 2 S.2.2.2.2 gX9_placeOf_X9_isLatched rfl rfl rfl (by decide +kernel) ⟨Nat.le_of_ble_eq_true rfl, Nat.le_of_ble_eq_true rfl⟩) (rfl : sh 161 = 9) rfl rfl rfl (by decide) rfl hl.1 rfl (Nat.le_of_ble_eq_true rfl) ⟨Nat.zero_le _, Nat.zero_le _⟩ dX9_placeOf_16 (fun v I1 L1 H locs hR G => ?_)
        obtain ⟨hv, hI, hL⟩ := hR
        subst hv
        have G : GS E I L sg H locs := G.same hI hL
        refine W.eq (g2 := F0 mg 19 ls [.int (if ¬ d 58 = -1 then 1 else 0), .int (((0 : Int32) + pl1M d 40 1 0) + pl1M d 40 1 1)]) rfl ?_
        refine s_if_eq_b (P := ¬ d 58 = -1) (tgt := 66) S dX9_placeOf_19 (by decide) (fun c_8 => ?_) (fun c_8 => ?_)
        · refine lv_iconst (v := (0 : Int32)) S.1 S.2.1 dX9_placeOf_66 (by decide) ?_
          refine s_iadd (v := ((((0 : Int32) + pl1M d 40 1 0) + pl1M d 40 1 1) + (0 : Int32))) S dX9_placeOf_67 rfl ?_
          refine lv_istore_n (lv' := [(3, .int ((((0 : Int32) + pl1M d 40 1 0) + pl1M d 40 1 1) + (0 : Int32))), (4, .int (2 : Int32)), (0, .ref (E.2.2.2 161)), (1, .int (0 : Int32)), (2, .int (1 : Int32))]) S.1 S.2.1 dX9_placeOf_68 rfl hl (by decide) rfl (fun ls hl => ?_)
          refine lv_iinc (v := (3 : Int32)) (lv' := [(4, .int (3 : Int32)), (3, .int ((((0 : Int32) + pl1M d 40 1 0) + pl1M d 40 1 1) + (0 : Int32))), (0, .ref (E.2.2.2 161)), (1, .int (0 : Int32)), (2, .int (1 : Int32))]) S.1 S.2.1 dX9_placeOf_69 hl (k := 1) rfl (by decide) (by decide) rfl (fun ls hl => ?_)
          refine lv_goto (tgt := 5) S.1 S.2.1 dX9_placeOf_72 (by decide) ?_
          exact kJ_7 ((((0 : Int32) + pl1M d 40 1 0) + pl1M d 40 1 1) + (0 : Int32)) _ _ _ _ _ ⟨(show ((((0 : Int32) + pl1M d 40 1 0) + pl1M d 40 1 1) + (0 : Int32)) = (((0 : Int32) + pl1M d 40 1 0) + pl1M d 40 1 1) + pl1M d 40 1 2 by first | (simp [pl1M, c_8]; done) | (clear S hX G hl; grind [pl1M])), rfl, rfl⟩ G (lv_sub hl [0, 1, 2, 3, 4] rfl)
        · refine lv_aload_n S.1 S.2.1 dX9_placeOf_22 rfl (lv_at hl 2 rfl) ?_
          refine s_get S hX G (i := 161) (kd := 9) (a := (I 161)) (v := .ref (E.2.2.2 162)) (C := RX9) (T := TX9) (N := 13) 0 (rfl : sh 161 = 9) rfl rfl rfl (by decide) rfl (fun _ h => (List.mem_cons_of_mem _ (List.mem_append_right _ h))) (by decide) (List.mem_of_getElem? (i := 1) rfl) (fun _ h => h) dX9_placeOf_23 ?_
          refine lv_iload_n S.1 S.2.1 dX9_placeOf_26 rfl (lv_at hl 3 rfl) ?_
          refine s_callS (As := [.int (0 : Int32)]) (rest := [.ref (E.2.2.2 162), .int (((0 : Int32) + pl1M d 40 1 0) + pl1M d 40 1 1)]) S hX G (k_X9_loadAt_0 l E) (va_cwS (bytes := cX9_loadAt) (maxL := 1) (ret := (some .int)) 1 S.2.2.2.2 gX9_placeOf_X9_loadAt rfl rfl rfl (by decide +kernel) ⟨Nat.le_of_ble_eq_true rfl, Nat.le_of_ble_eq_true rfl⟩) rfl hl.1 rfl (Nat.le_of_ble_eq_true rfl) ⟨Nat.zero_le _, Nat.zero_le _⟩ dX9_placeOf_27 (fun v I1 L1 H locs hR G => ?_)
          obtain ⟨hv, hI, hL⟩ := hR
          subst hv
          have G : GS E I L sg H locs := G.same hI hL
          refine W.eq (g2 := F0 mg 30 ls [.int (40 : Int32), .ref (E.2.2.2 162), .int (((0 : Int32) + pl1M d 40 1 0) + pl1M d 40 1 1)]) rfl ?_
          refine lv_bipush (v := (12 : Int32)) S.1 S.2.1 dX9_placeOf_30 (by decide) ?_
          refine s_iadd (v := (52 : Int32)) S dX9_placeOf_32 (by decide) ?_
          refine lv_iconst (v := (3 : Int32)) S.1 S.2.1 dX9_placeOf_33 (by decide) ?_
          refine lv_iload S.1 S.2.1 dX9_placeOf_34 (lv_at hl 0 rfl) ?_
          refine s_imul (v := (6 : Int32)) S dX9_placeOf_36 (by decide) ?_
          refine s_iadd (v := (58 : Int32)) S dX9_placeOf_37 (by decide) ?_
          refine lv_iconst (v := (2 : Int32)) S.1 S.2.1 dX9_placeOf_38 (by decide) ?_
          refine s_iadd (v := (60 : Int32)) S dX9_placeOf_39 (by decide) ?_
          refine s_iald S hX G (i := 162) (kd := 284) (n := 270) (a := d) (x := (d 60)) (rfl : sh 162 = 284) e_d rfl (by decide) (by unfold vp_in; decide) (congrArg d (by decide)) dX9_placeOf_40 ?_
          refine lv_aload_n S.1 S.2.1 dX9_placeOf_41 rfl (lv_at hl 2 rfl) ?_
          refine s_get S hX G (i := 161) (kd := 9) (a := (I 161)) (v := .ref (E.2.2.2 162)) (C := RX9) (T := TX9) (N := 13) 0 (rfl : sh 161 = 9) rfl rfl rfl (by decide) rfl (fun _ h => (List.mem_cons_of_mem _ (List.mem_append_right _ h))) (by decide) (List.mem_of_getElem? (i := 1) rfl) (fun _ h => h) dX9_placeOf_42 ?_
          refine lv_iload_n S.1 S.2.1 dX9_placeOf_45 rfl (lv_at hl 3 rfl) ?_
          refine s_callS (As := [.int (0 : Int32)]) (rest := [.ref (E.2.2.2 162), .int (d 60), .int (((0 : Int32) + pl1M d 40 1 0) + pl1M d 40 1 1)]) S hX G (k_X9_loadAt_0 l E) (va_cwS (bytes := cX9_loadAt) (maxL := 1) (ret := (some .int)) 1 S.2.2.2.2 gX9_placeOf_X9_loadAt rfl rfl rfl (by decide +kernel) ⟨Nat.le_of_ble_eq_true rfl, Nat.le_of_ble_eq_true rfl⟩) rfl hl.1 rfl (Nat.le_of_ble_eq_true rfl) ⟨Nat.zero_le _, Nat.zero_le _⟩ dX9_placeOf_46 (fun v I1 L1 H locs hR G => ?_)
          obtain ⟨hv, hI, hL⟩ := hR
          subst hv
          have G : GS E I L sg H locs := G.same hI hL
          refine W.eq (g2 := F0 mg 49 ls [.int (40 : Int32), .ref (E.2.2.2 162), .int (d 60), .int (((0 : Int32) + pl1M d 40 1 0) + pl1M d 40 1 1)]) rfl ?_
          refine lv_bipush (v := (12 : Int32)) S.1 S.2.1 dX9_placeOf_49 (by decide) ?_
          refine s_iadd (v := (52 : Int32)) S dX9_placeOf_51 (by decide) ?_
          refine lv_iconst (v := (3 : Int32)) S.1 S.2.1 dX9_placeOf_52 (by decide) ?_
          refine lv_iload_n S.1 S.2.1 dX9_placeOf_53 rfl (lv_at hl 4 rfl) ?_
          refine s_imul (v := (3 : Int32)) S dX9_placeOf_54 (by decide) ?_
          refine s_iadd (v := (55 : Int32)) S dX9_placeOf_55 (by decide) ?_
          refine lv_iconst (v := (2 : Int32)) S.1 S.2.1 dX9_placeOf_56 (by decide) ?_
          refine s_iadd (v := (57 : Int32)) S dX9_placeOf_57 (by decide) ?_
          refine s_iald S hX G (i := 162) (kd := 284) (n := 270) (a := d) (x := (d 57)) (rfl : sh 162 = 284) e_d rfl (by decide) (by unfold vp_in; decide) (congrArg d (by decide)) dX9_placeOf_58 ?_
          refine lv_icmp_ge (tgt := 66) S.1 S.2.1 dX9_placeOf_59 (by decide) (fun c_9 => ?_) (fun c_9 => ?_)
          · refine lv_iconst (v := (0 : Int32)) S.1 S.2.1 dX9_placeOf_66 (by decide) ?_
            refine s_iadd (v := ((((0 : Int32) + pl1M d 40 1 0) + pl1M d 40 1 1) + (0 : Int32))) S dX9_placeOf_67 rfl ?_
            refine lv_istore_n (lv' := [(3, .int ((((0 : Int32) + pl1M d 40 1 0) + pl1M d 40 1 1) + (0 : Int32))), (4, .int (2 : Int32)), (0, .ref (E.2.2.2 161)), (1, .int (0 : Int32)), (2, .int (1 : Int32))]) S.1 S.2.1 dX9_placeOf_68 rfl hl (by decide) rfl (fun ls hl => ?_)
            refine lv_iinc (v := (3 : Int32)) (lv' := [(4, .int (3 : Int32)), (3, .int ((((0 : Int32) + pl1M d 40 1 0) + pl1M d 40 1 1) + (0 : Int32))), (0, .ref (E.2.2.2 161)), (1, .int (0 : Int32)), (2, .int (1 : Int32))]) S.1 S.2.1 dX9_placeOf_69 hl (k := 1) rfl (by decide) (by decide) rfl (fun ls hl => ?_)
            refine lv_goto (tgt := 5) S.1 S.2.1 dX9_placeOf_72 (by decide) ?_
            exact kJ_7 ((((0 : Int32) + pl1M d 40 1 0) + pl1M d 40 1 1) + (0 : Int32)) _ _ _ _ _ ⟨(show ((((0 : Int32) + pl1M d 40 1 0) + pl1M d 40 1 1) + (0 : Int32)) = (((0 : Int32) + pl1M d 40 1 0) + pl1M d 40 1 1) + pl1M d 40 1 2 by first | (simp [pl1M, c_8, c_9]; done) | (clear S hX G hl; grind [pl1M])), rfl, rfl⟩ G (lv_sub hl [0, 1, 2, 3, 4] rfl)
          · refine lv_iconst (v := (1 : Int32)) S.1 S.2.1 dX9_placeOf_62 (by decide) ?_
            refine lv_goto (tgt := 67) S.1 S.2.1 dX9_placeOf_63 (by decide) ?_
            refine s_iadd (v := ((((0 : Int32) + pl1M d 40 1 0) + pl1M d 40 1 1) + (1 : Int32))) S dX9_placeOf_67 rfl ?_
            refine lv_istore_n (lv' := [(3, .int ((((0 : Int32) + pl1M d 40 1 0) + pl1M d 40 1 1) + (1 : Int32))), (4, .int (2 : Int32)), (0, .ref (E.2.2.2 161)), (1, .int (0 : Int32)), (2, .int (1 : Int32))]) S.1 S.2.1 dX9_placeOf_68 rfl hl (by decide) rfl (fun ls hl => ?_)
            refine lv_iinc (v := (3 : Int32)) (lv' := [(4, .int (3 : Int32)), (3, .int ((((0 : Int32) + pl1M d 40 1 0) + pl1M d 40 1 1) + (1 : Int32))), (0, .ref (E.2.2.2 161)), (1, .int (0 : Int32)), (2, .int (1 : Int32))]) S.1 S.2.1 dX9_placeOf_69 hl (k := 1) rfl (by decide) (by decide) rfl (fun ls hl => ?_)
            refine lv_goto (tgt := 5) S.1 S.2.1 dX9_placeOf_72 (by decide) ?_
            exact kJ_7 ((((0 : Int32) + pl1M d 40 1 0) + pl1M d 40 1 1) + (1 : Int32)) _ _ _ _ _ ⟨(show ((((0 : Int32) + pl1M d 40 1 0) + pl1M d 40 1 1) + (1 : Int32)) = (((0 : Int32) + pl1M d 40 1 0) + pl1M d 40 1 1) + pl1M d 40 1 2 by first | (simp [pl1M, c_8, c_9]; done) | (clear S hX G hl; grind [pl1M])), rfl, rfl⟩ G (lv_sub hl [0, 1, 2, 3, 4] rfl)
      · obtain ⟨h0, hI, hL⟩ := hP
        have h0 : x = ((((0 : Int32) + pl1M d 40 1 0) + pl1M d 40 1 1) + pl1M d 40 1 2) := h0
        have hl : lv_has ls 5 [(4, .int (3 : Int32)), (3, .int x), (0, .ref (E.2.2.2 161)), (1, .int (0 : Int32)), (2, .int (1 : Int32))] := hl
        subst h0
        have G : GS E I L sg H locs := G.same hI hL
        refine W.eq (g2 := F0 mg 5 ls []) rfl ?_
        refine lv_iload S.1 S.2.1 dX9_placeOf_5 (lv_at hl 0 rfl) ?_
        refine lv_iconst (v := (3 : Int32)) S.1 S.2.1 dX9_placeOf_7 (by decide) ?_
        refine lv_icmp_ge (tgt := 75) S.1 S.2.1 dX9_placeOf_8 (by decide) (fun _ => ?_) (fun h => absurd (by decide) h)
        refine lv_iload_n S.1 S.2.1 dX9_placeOf_75 rfl (lv_at hl 1 rfl) ?_
        refine s_iret (x := ((((0 : Int32) + pl1M d 40 1 0) + pl1M d 40 1 1) + pl1M d 40 1 2)) S G hr hlk dX9_placeOf_76 ?_
        exact ⟨(congrArg (fun q : Int32 => some (Value.int q)) (show ((((0 : Int32) + pl1M d 40 1 0) + pl1M d 40 1 1) + pl1M d 40 1 2) = (plcM d 40 1) by rfl)), rfl, rfl⟩
set_option maxHeartbeats 4000000 in
set_option maxRecDepth 100000 in
theorem k_X9_canClear_0_1 (l : Launch) (E : Ev) {I : SI} {L : SL} (d : Nat → Int32) (e_d : I (162) = d) : CS l yX9_canClear wsX9_canClear ({ frames := 3, cells := 0, slots := 0, locals := 66 }) E [.ref (E.2.2.2 161), .int (0 : Int32), .int (1 : Int32)] I L (fun vv I' L' => vv = some (.int (if ¬ d 55 = -1 ∧ ¬ ¬ plcM d 40 1 ≤ 0 then 1 else 0)) ∧ I' = I ∧ L' = L) := by
  refine CS.of (cc := cX9_canClear) (maxL := 3) (ret := (some .boolean)) (by decide) rfl (Nat.le_of_ble_eq_true rfl) ?_
  intro pg en sg mg below meth cg ls S hr hlk hX G hl
  have S : CallFix pg mg cg cX9_canClear 3 sg _ wsX9_canClear RX9 := S
  have hl : lv_has ls 3 [(0, .ref (E.2.2.2 161)), (1, .int (0 : Int32)), (2, .int (1 : Int32))] := hl
  refine lv_aload_n S.1 S.2.1 dX9_canClear_0 rfl (lv_at hl 0 rfl) ?_
  refine lv_iload_n S.1 S.2.1 dX9_canClear_1 rfl (lv_at hl 1 rfl) ?_
  refine lv_iload_n S.1 S.2.1 dX9_canClear_2 rfl (lv_at hl 2 rfl) ?_
  refine s_callV (C := RX9) (As := [.int (0 : Int32), .int (1 : Int32)]) (rest := []) (i := 161) (kd := 9) S hX G (k_X9_isLatched_0_1 l E d e_d) (cwV (bytes := cX9_isLatched) (maxL := 3) (ret := (some .boolean)) 2 S.2.2.2.2 gX9_canClear_X9_isLatched rfl rfl rfl (by decide +kernel) ⟨Nat.le_of_ble_eq_true rfl, Nat.le_of_ble_eq_true rfl⟩) (rfl : sh 161 = 9) rfl rfl rfl (by decide) rfl hl.1 rfl (Nat.le_of_ble_eq_true rfl) ⟨Nat.zero_le _, Nat.zero_le _⟩ dX9_canClear_3 (fun v I1 L1 H locs hR G => ?_)
  obtain ⟨hv, hI, hL⟩ := hR
  subst hv
  have G : GS E I L sg H locs := G.same hI hL
  refine W.eq (g2 := F0 mg 6 ls [.int (if ¬ d 55 = -1 then 1 else 0)]) rfl ?_
  refine s_if_eq_b (P := ¬ d 55 = -1) (tgt := 18) S dX9_canClear_6 (by decide) (fun c_1 => ?_) (fun c_1 => ?_)
  · refine lv_iconst (v := (0 : Int32)) S.1 S.2.1 dX9_canClear_18 (by decide) ?_
    refine s_zret (x := (0 : Int32)) S G hr hlk dX9_canClear_19 (Or.inl rfl) ?_
    exact ⟨(congrArg (fun q : Int32 => some (Value.int q)) (show (0 : Int32) = (if ¬ d 55 = -1 ∧ ¬ ¬ plcM d 40 1 ≤ 0 then 1 else 0) by first | (simp [c_1]; done) | (clear S hX G hl; grind))), rfl, rfl⟩
  · refine lv_aload_n S.1 S.2.1 dX9_canClear_9 rfl (lv_at hl 0 rfl) ?_
    refine lv_iload_n S.1 S.2.1 dX9_canClear_10 rfl (lv_at hl 1 rfl) ?_
    refine lv_iload_n S.1 S.2.1 dX9_canClear_11 rfl (lv_at hl 2 rfl) ?_
    refine s_callV (C := RX9) (As := [.int (0 : Int32), .int (1 : Int32)]) (rest := []) (i := 161) (kd := 9) S hX G (k_X9_placeOf_0_1 l E d e_d) (cwV (bytes := cX9_placeOf) (maxL := 5) (ret := (some .int)) 2 S.2.2.2.2 gX9_canClear_X9_placeOf rfl rfl rfl (by decide +kernel) ⟨Nat.le_of_ble_eq_true rfl, Nat.le_of_ble_eq_true rfl⟩) (rfl : sh 161 = 9) rfl rfl rfl (by decide) rfl hl.1 rfl (Nat.le_of_ble_eq_true rfl) ⟨Nat.zero_le _, Nat.zero_le _⟩ dX9_canClear_12 (fun v I1 L1 H locs hR G => ?_)
    obtain ⟨hv, hI, hL⟩ := hR
    subst hv
    have G : GS E I L sg H locs := G.same hI hL
    refine W.eq (g2 := F0 mg 15 ls [.int (plcM d 40 1)]) rfl ?_
    refine lv_topi (fun y_2 ey_2 => ?_)
    refine lv_if_le (tgt := 20) S.1 S.2.1 dX9_canClear_15 (by decide) (fun c_3 => ?_) (fun c_3 => ?_)
    · refine lv_iload_n S.1 S.2.1 dX9_canClear_20 rfl (lv_at hl 2 rfl) ?_
      refine lv_if_ne (tgt := 46) S.1 S.2.1 dX9_canClear_21 (by decide) (fun _ => ?_) (fun h => absurd h (by decide))
      refine lv_iload_n S.1 S.2.1 dX9_canClear_46 rfl (lv_at hl 2 rfl) ?_
      refine lv_iconst (v := (1 : Int32)) S.1 S.2.1 dX9_canClear_47 (by decide) ?_
      refine lv_icmp_eq (tgt := 73) S.1 S.2.1 dX9_canClear_48 (by decide) (fun _ => ?_) (fun h => absurd (by decide) h)
      refine lv_iconst (v := (1 : Int32)) S.1 S.2.1 dX9_canClear_73 (by decide) ?_
      refine lv_goto (tgt := 78) S.1 S.2.1 dX9_canClear_74 (by decide) ?_
      refine s_zret (x := (1 : Int32)) S G hr hlk dX9_canClear_78 (Or.inr rfl) ?_
      exact ⟨(congrArg (fun q : Int32 => some (Value.int q)) (show (1 : Int32) = (if ¬ d 55 = -1 ∧ ¬ ¬ plcM d 40 1 ≤ 0 then 1 else 0) by subst ey_2; (first | (simp [c_1, c_3]; done) | (clear S hX G hl; grind)))), rfl, rfl⟩
    · refine lv_iconst (v := (0 : Int32)) S.1 S.2.1 dX9_canClear_18 (by decide) ?_
      refine s_zret (x := (0 : Int32)) S G hr hlk dX9_canClear_19 (Or.inl rfl) ?_
      exact ⟨(congrArg (fun q : Int32 => some (Value.int q)) (show (0 : Int32) = (if ¬ d 55 = -1 ∧ ¬ ¬ plcM d 40 1 ≤ 0 then 1 else 0) by subst ey_2; (first | (simp [c_1, c_3]; done) | (clear S hX G hl; grind)))), rfl, rfl⟩
set_option maxHeartbeats 4000000 in
set_option maxRecDepth 100000 in
theorem k_X9_placeOf_0_2 (l : Launch) (E : Ev) {I : SI} {L : SL} (d : Nat → Int32) (e_d : I (162) = d) : CS l yX9_placeOf wsX9_placeOf ({ frames := 2, cells := 0, slots := 0, locals := 42 }) E [.ref (E.2.2.2 161), .int (0 : Int32), .int (2 : Int32)] I L (fun vv I' L' => vv = some (.int (plcM d 40 2)) ∧ I' = I ∧ L' = L) := by
  refine CS.of (cc := cX9_placeOf) (maxL := 5) (ret := (some .int)) (by decide) rfl (Nat.le_of_ble_eq_true rfl) ?_
  intro pg en sg mg below meth cg ls S hr hlk hX G hl
  have S : CallFix pg mg cg cX9_placeOf 5 sg _ wsX9_placeOf RX9 := S
  have hl : lv_has ls 5 [(0, .ref (E.2.2.2 161)), (1, .int (0 : Int32)), (2, .int (2 : Int32))] := hl
  refine lv_iconst (v := (0 : Int32)) S.1 S.2.1 dX9_placeOf_0 (by decide) ?_
  refine lv_istore_n (lv' := [(3, .int (0 : Int32)), (0, .ref (E.2.2.2 161)), (1, .int (0 : Int32)), (2, .int (2 : Int32))]) S.1 S.2.1 dX9_placeOf_1 rfl hl (by decide) rfl (fun ls hl => ?_)
  refine lv_iconst (v := (0 : Int32)) S.1 S.2.1 dX9_placeOf_2 (by decide) ?_
  refine lv_istore (lv' := [(4, .int (0 : Int32)), (3, .int (0 : Int32)), (0, .ref (E.2.2.2 161)), (1, .int (0 : Int32)), (2, .int (2 : Int32))]) S.1 S.2.1 dX9_placeOf_3 hl (by decide) rfl (fun ls hl => ?_)
  refine s_cut (α := Int32) (nL := 5) (E := E) (fun x I' L' => x = ((0 : Int32) + pl1M d 40 2 0) ∧ I' = I ∧ L' = L) (fun x => [(4, .int (1 : Int32)), (3, .int x), (0, .ref (E.2.2.2 161)), (1, .int (0 : Int32)), (2, .int (2 : Int32))]) 5 (fun x => []) (fun kJ_1 => ?_) (fun x I1 L1 H locs ls hP G hl => ?_)
  · refine lv_iload S.1 S.2.1 dX9_placeOf_5 (lv_at hl 0 rfl) ?_
    refine lv_iconst (v := (3 : Int32)) S.1 S.2.1 dX9_placeOf_7 (by decide) ?_
    refine lv_icmp_ge (tgt := 75) S.1 S.2.1 dX9_placeOf_8 (by decide) (fun h => absurd h (by decide)) (fun _ => ?_)
    refine lv_iload_n S.1 S.2.1 dX9_placeOf_11 rfl (lv_at hl 1 rfl) ?_
    refine lv_aload_n S.1 S.2.1 dX9_placeOf_12 rfl (lv_at hl 2 rfl) ?_
    refine lv_iload_n S.1 S.2.1 dX9_placeOf_13 rfl (lv_at hl 3 rfl) ?_
    refine lv_iload S.1 S.2.1 dX9_placeOf_14 (lv_at hl 0 rfl) ?_
    refine s_callV (C := RX9) (As := [.int (0 : Int32), .int (0 : Int32)]) (rest := [.int (0 : Int32)]) (i := 161) (kd := 9) S hX G (k_X9_isLatched_0_0 l E d e_d) (cwV (bytes := cX9_isLatched) (maxL := 3) (ret := (some .boolean)) 2 S.2.2.2.2 gX9_placeOf_X9_isLatched rfl rfl rfl (by decide +kernel) ⟨Nat.le_of_ble_eq_true rfl, Nat.le_of_ble_eq_true rfl⟩) (rfl : sh 161 = 9) rfl rfl rfl (by decide) rfl hl.1 rfl (Nat.le_of_ble_eq_true rfl) ⟨Nat.zero_le _, Nat.zero_le _⟩ dX9_placeOf_16 (fun v I1 L1 H locs hR G => ?_)
    obtain ⟨hv, hI, hL⟩ := hR
    subst hv
    have G : GS E I L sg H locs := G.same hI hL
    refine W.eq (g2 := F0 mg 19 ls [.int (if ¬ d 52 = -1 then 1 else 0), .int (0 : Int32)]) rfl ?_
    refine s_if_eq_b (P := ¬ d 52 = -1) (tgt := 66) S dX9_placeOf_19 (by decide) (fun c_2 => ?_) (fun c_2 => ?_)
    · refine lv_iconst (v := (0 : Int32)) S.1 S.2.1 dX9_placeOf_66 (by decide) ?_
      refine s_iadd (v := (0 : Int32)) S dX9_placeOf_67 (by decide) ?_
      refine lv_istore_n (lv' := [(3, .int (0 : Int32)), (4, .int (0 : Int32)), (0, .ref (E.2.2.2 161)), (1, .int (0 : Int32)), (2, .int (2 : Int32))]) S.1 S.2.1 dX9_placeOf_68 rfl hl (by decide) rfl (fun ls hl => ?_)
      refine lv_iinc (v := (1 : Int32)) (lv' := [(4, .int (1 : Int32)), (3, .int (0 : Int32)), (0, .ref (E.2.2.2 161)), (1, .int (0 : Int32)), (2, .int (2 : Int32))]) S.1 S.2.1 dX9_placeOf_69 hl (k := 1) rfl (by decide) (by decide) rfl (fun ls hl => ?_)
      refine lv_goto (tgt := 5) S.1 S.2.1 dX9_placeOf_72 (by decide) ?_
      exact kJ_1 (0 : Int32) _ _ _ _ _ ⟨(show (0 : Int32) = (0 : Int32) + pl1M d 40 2 0 by first | (simp [pl1M, c_2]; done) | (clear S hX G hl; grind [pl1M])), rfl, rfl⟩ G (lv_sub hl [0, 1, 2, 3, 4] rfl)
    · refine lv_aload_n S.1 S.2.1 dX9_placeOf_22 rfl (lv_at hl 2 rfl) ?_
      refine s_get S hX G (i := 161) (kd := 9) (a := (I 161)) (v := .ref (E.2.2.2 162)) (C := RX9) (T := TX9) (N := 13) 0 (rfl : sh 161 = 9) rfl rfl rfl (by decide) rfl (fun _ h => (List.mem_cons_of_mem _ (List.mem_append_right _ h))) (by decide) (List.mem_of_getElem? (i := 1) rfl) (fun _ h => h) dX9_placeOf_23 ?_
      refine lv_iload_n S.1 S.2.1 dX9_placeOf_26 rfl (lv_at hl 3 rfl) ?_
      refine s_callS (As := [.int (0 : Int32)]) (rest := [.ref (E.2.2.2 162), .int (0 : Int32)]) S hX G (k_X9_loadAt_0 l E) (va_cwS (bytes := cX9_loadAt) (maxL := 1) (ret := (some .int)) 1 S.2.2.2.2 gX9_placeOf_X9_loadAt rfl rfl rfl (by decide +kernel) ⟨Nat.le_of_ble_eq_true rfl, Nat.le_of_ble_eq_true rfl⟩) rfl hl.1 rfl (Nat.le_of_ble_eq_true rfl) ⟨Nat.zero_le _, Nat.zero_le _⟩ dX9_placeOf_27 (fun v I1 L1 H locs hR G => ?_)
      obtain ⟨hv, hI, hL⟩ := hR
      subst hv
      have G : GS E I L sg H locs := G.same hI hL
      refine W.eq (g2 := F0 mg 30 ls [.int (40 : Int32), .ref (E.2.2.2 162), .int (0 : Int32)]) rfl ?_
      refine lv_bipush (v := (12 : Int32)) S.1 S.2.1 dX9_placeOf_30 (by decide) ?_
      refine s_iadd (v := (52 : Int32)) S dX9_placeOf_32 (by decide) ?_
      refine lv_iconst (v := (3 : Int32)) S.1 S.2.1 dX9_placeOf_33 (by decide) ?_
      refine lv_iload S.1 S.2.1 dX9_placeOf_34 (lv_at hl 0 rfl) ?_
      refine s_imul (v := (0 : Int32)) S dX9_placeOf_36 (by decide) ?_
      refine s_iadd (v := (52 : Int32)) S dX9_placeOf_37 (by decide) ?_
      refine lv_iconst (v := (2 : Int32)) S.1 S.2.1 dX9_placeOf_38 (by decide) ?_
      refine s_iadd (v := (54 : Int32)) S dX9_placeOf_39 (by decide) ?_
      refine s_iald S hX G (i := 162) (kd := 284) (n := 270) (a := d) (x := (d 54)) (rfl : sh 162 = 284) e_d rfl (by decide) (by unfold vp_in; decide) (congrArg d (by decide)) dX9_placeOf_40 ?_
      refine lv_aload_n S.1 S.2.1 dX9_placeOf_41 rfl (lv_at hl 2 rfl) ?_
      refine s_get S hX G (i := 161) (kd := 9) (a := (I 161)) (v := .ref (E.2.2.2 162)) (C := RX9) (T := TX9) (N := 13) 0 (rfl : sh 161 = 9) rfl rfl rfl (by decide) rfl (fun _ h => (List.mem_cons_of_mem _ (List.mem_append_right _ h))) (by decide) (List.mem_of_getElem? (i := 1) rfl) (fun _ h => h) dX9_placeOf_42 ?_
      refine lv_iload_n S.1 S.2.1 dX9_placeOf_45 rfl (lv_at hl 3 rfl) ?_
      refine s_callS (As := [.int (0 : Int32)]) (rest := [.ref (E.2.2.2 162), .int (d 54), .int (0 : Int32)]) S hX G (k_X9_loadAt_0 l E) (va_cwS (bytes := cX9_loadAt) (maxL := 1) (ret := (some .int)) 1 S.2.2.2.2 gX9_placeOf_X9_loadAt rfl rfl rfl (by decide +kernel) ⟨Nat.le_of_ble_eq_true rfl, Nat.le_of_ble_eq_true rfl⟩) rfl hl.1 rfl (Nat.le_of_ble_eq_true rfl) ⟨Nat.zero_le _, Nat.zero_le _⟩ dX9_placeOf_46 (fun v I1 L1 H locs hR G => ?_)
      obtain ⟨hv, hI, hL⟩ := hR
      subst hv
      have G : GS E I L sg H locs := G.same hI hL
      refine W.eq (g2 := F0 mg 49 ls [.int (40 : Int32), .ref (E.2.2.2 162), .int (d 54), .int (0 : Int32)]) rfl ?_
      refine lv_bipush (v := (12 : Int32)) S.1 S.2.1 dX9_placeOf_49 (by decide) ?_
      refine s_iadd (v := (52 : Int32)) S dX9_placeOf_51 (by decide) ?_
      refine lv_iconst (v := (3 : Int32)) S.1 S.2.1 dX9_placeOf_52 (by decide) ?_
      refine lv_iload_n S.1 S.2.1 dX9_placeOf_53 rfl (lv_at hl 4 rfl) ?_
      refine s_imul (v := (6 : Int32)) S dX9_placeOf_54 (by decide) ?_
      refine s_iadd (v := (58 : Int32)) S dX9_placeOf_55 (by decide) ?_
      refine lv_iconst (v := (2 : Int32)) S.1 S.2.1 dX9_placeOf_56 (by decide) ?_
      refine s_iadd (v := (60 : Int32)) S dX9_placeOf_57 (by decide) ?_
      refine s_iald S hX G (i := 162) (kd := 284) (n := 270) (a := d) (x := (d 60)) (rfl : sh 162 = 284) e_d rfl (by decide) (by unfold vp_in; decide) (congrArg d (by decide)) dX9_placeOf_58 ?_
      refine lv_icmp_ge (tgt := 66) S.1 S.2.1 dX9_placeOf_59 (by decide) (fun c_3 => ?_) (fun c_3 => ?_)
      · refine lv_iconst (v := (0 : Int32)) S.1 S.2.1 dX9_placeOf_66 (by decide) ?_
        refine s_iadd (v := (0 : Int32)) S dX9_placeOf_67 (by decide) ?_
        refine lv_istore_n (lv' := [(3, .int (0 : Int32)), (4, .int (0 : Int32)), (0, .ref (E.2.2.2 161)), (1, .int (0 : Int32)), (2, .int (2 : Int32))]) S.1 S.2.1 dX9_placeOf_68 rfl hl (by decide) rfl (fun ls hl => ?_)
        refine lv_iinc (v := (1 : Int32)) (lv' := [(4, .int (1 : Int32)), (3, .int (0 : Int32)), (0, .ref (E.2.2.2 161)), (1, .int (0 : Int32)), (2, .int (2 : Int32))]) S.1 S.2.1 dX9_placeOf_69 hl (k := 1) rfl (by decide) (by decide) rfl (fun ls hl => ?_)
        refine lv_goto (tgt := 5) S.1 S.2.1 dX9_placeOf_72 (by decide) ?_
        exact kJ_1 (0 : Int32) _ _ _ _ _ ⟨(show (0 : Int32) = (0 : Int32) + pl1M d 40 2 0 by first | (simp [pl1M, c_2, c_3]; done) | (clear S hX G hl; grind [pl1M])), rfl, rfl⟩ G (lv_sub hl [0, 1, 2, 3, 4] rfl)
      · refine lv_iconst (v := (1 : Int32)) S.1 S.2.1 dX9_placeOf_62 (by decide) ?_
        refine lv_goto (tgt := 67) S.1 S.2.1 dX9_placeOf_63 (by decide) ?_
        refine s_iadd (v := (1 : Int32)) S dX9_placeOf_67 (by decide) ?_
        refine lv_istore_n (lv' := [(3, .int (1 : Int32)), (4, .int (0 : Int32)), (0, .ref (E.2.2.2 161)), (1, .int (0 : Int32)), (2, .int (2 : Int32))]) S.1 S.2.1 dX9_placeOf_68 rfl hl (by decide) rfl (fun ls hl => ?_)
        refine lv_iinc (v := (1 : Int32)) (lv' := [(4, .int (1 : Int32)), (3, .int (1 : Int32)), (0, .ref (E.2.2.2 161)), (1, .int (0 : Int32)), (2, .int (2 : Int32))]) S.1 S.2.1 dX9_placeOf_69 hl (k := 1) rfl (by decide) (by decide) rfl (fun ls hl => ?_)
        refine lv_goto (tgt := 5) S.1 S.2.1 dX9_placeOf_72 (by decide) ?_
        exact kJ_1 (1 : Int32) _ _ _ _ _ ⟨(show (1 : Int32) = (0 : Int32) + pl1M d 40 2 0 by first | (simp [pl1M, c_2, c_3]; done) | (clear S hX G hl; grind [pl1M])), rfl, rfl⟩ G (lv_sub hl [0, 1, 2, 3, 4] rfl)
  · obtain ⟨h0, hI, hL⟩ := hP
    have h0 : x = ((0 : Int32) + pl1M d 40 2 0) := h0
    have hl : lv_has ls 5 [(4, .int (1 : Int32)), (3, .int x), (0, .ref (E.2.2.2 161)), (1, .int (0 : Int32)), (2, .int (2 : Int32))] := hl
    subst h0
    have G : GS E I L sg H locs := G.same hI hL
    refine W.eq (g2 := F0 mg 5 ls []) rfl ?_
    refine s_cut (α := Int32) (nL := 5) (E := E) (fun x I' L' => x = (((0 : Int32) + pl1M d 40 2 0) + pl1M d 40 2 1) ∧ I' = I ∧ L' = L) (fun x => [(4, .int (2 : Int32)), (3, .int x), (0, .ref (E.2.2.2 161)), (1, .int (0 : Int32)), (2, .int (2 : Int32))]) 5 (fun x => []) (fun kJ_4 => ?_) (fun x I1 L1 H locs ls hP G hl => ?_)
    · refine lv_iload S.1 S.2.1 dX9_placeOf_5 (lv_at hl 0 rfl) ?_
      refine lv_iconst (v := (3 : Int32)) S.1 S.2.1 dX9_placeOf_7 (by decide) ?_
      refine lv_icmp_ge (tgt := 75) S.1 S.2.1 dX9_placeOf_8 (by decide) (fun h => absurd h (by decide)) (fun _ => ?_)
      refine lv_iload_n S.1 S.2.1 dX9_placeOf_11 rfl (lv_at hl 1 rfl) ?_
      refine lv_aload_n S.1 S.2.1 dX9_placeOf_12 rfl (lv_at hl 2 rfl) ?_
      refine lv_iload_n S.1 S.2.1 dX9_placeOf_13 rfl (lv_at hl 3 rfl) ?_
      refine lv_iload S.1 S.2.1 dX9_placeOf_14 (lv_at hl 0 rfl) ?_
      refine s_callV (C := RX9) (As := [.int (0 : Int32), .int (1 : Int32)]) (rest := [.int ((0 : Int32) + pl1M d 40 2 0)]) (i := 161) (kd := 9) S hX G (k_X9_isLatched_0_1 l E d e_d) (cwV (bytes := cX9_isLatched) (maxL := 3) (ret := (some .boolean)) 2 S.2.2.2.2 gX9_placeOf_X9_isLatched rfl rfl rfl (by decide +kernel) ⟨Nat.le_of_ble_eq_true rfl, Nat.le_of_ble_eq_true rfl⟩) (rfl : sh 161 = 9) rfl rfl rfl (by decide) rfl hl.1 rfl (Nat.le_of_ble_eq_true rfl) ⟨Nat.zero_le _, Nat.zero_le _⟩ dX9_placeOf_16 (fun v I1 L1 H locs hR G => ?_)
      obtain ⟨hv, hI, hL⟩ := hR
      subst hv
      have G : GS E I L sg H locs := G.same hI hL
      refine W.eq (g2 := F0 mg 19 ls [.int (if ¬ d 55 = -1 then 1 else 0), .int ((0 : Int32) + pl1M d 40 2 0)]) rfl ?_
      refine s_if_eq_b (P := ¬ d 55 = -1) (tgt := 66) S dX9_placeOf_19 (by decide) (fun c_5 => ?_) (fun c_5 => ?_)
      · refine lv_iconst (v := (0 : Int32)) S.1 S.2.1 dX9_placeOf_66 (by decide) ?_
        refine s_iadd (v := (((0 : Int32) + pl1M d 40 2 0) + (0 : Int32))) S dX9_placeOf_67 rfl ?_
        refine lv_istore_n (lv' := [(3, .int (((0 : Int32) + pl1M d 40 2 0) + (0 : Int32))), (4, .int (1 : Int32)), (0, .ref (E.2.2.2 161)), (1, .int (0 : Int32)), (2, .int (2 : Int32))]) S.1 S.2.1 dX9_placeOf_68 rfl hl (by decide) rfl (fun ls hl => ?_)
        refine lv_iinc (v := (2 : Int32)) (lv' := [(4, .int (2 : Int32)), (3, .int (((0 : Int32) + pl1M d 40 2 0) + (0 : Int32))), (0, .ref (E.2.2.2 161)), (1, .int (0 : Int32)), (2, .int (2 : Int32))]) S.1 S.2.1 dX9_placeOf_69 hl (k := 1) rfl (by decide) (by decide) rfl (fun ls hl => ?_)
        refine lv_goto (tgt := 5) S.1 S.2.1 dX9_placeOf_72 (by decide) ?_
        exact kJ_4 (((0 : Int32) + pl1M d 40 2 0) + (0 : Int32)) _ _ _ _ _ ⟨(show (((0 : Int32) + pl1M d 40 2 0) + (0 : Int32)) = ((0 : Int32) + pl1M d 40 2 0) + pl1M d 40 2 1 by first | (simp [pl1M, c_5]; done) | (clear S hX G hl; grind [pl1M])), rfl, rfl⟩ G (lv_sub hl [0, 1, 2, 3, 4] rfl)
      · refine lv_aload_n S.1 S.2.1 dX9_placeOf_22 rfl (lv_at hl 2 rfl) ?_
        refine s_get S hX G (i := 161) (kd := 9) (a := (I 161)) (v := .ref (E.2.2.2 162)) (C := RX9) (T := TX9) (N := 13) 0 (rfl : sh 161 = 9) rfl rfl rfl (by decide) rfl (fun _ h => (List.mem_cons_of_mem _ (List.mem_append_right _ h))) (by decide) (List.mem_of_getElem? (i := 1) rfl) (fun _ h => h) dX9_placeOf_23 ?_
        refine lv_iload_n S.1 S.2.1 dX9_placeOf_26 rfl (lv_at hl 3 rfl) ?_
        refine s_callS (As := [.int (0 : Int32)]) (rest := [.ref (E.2.2.2 162), .int ((0 : Int32) + pl1M d 40 2 0)]) S hX G (k_X9_loadAt_0 l E) (va_cwS (bytes := cX9_loadAt) (maxL := 1) (ret := (some .int)) 1 S.2.2.2.2 gX9_placeOf_X9_loadAt rfl rfl rfl (by decide +kernel) ⟨Nat.le_of_ble_eq_true rfl, Nat.le_of_ble_eq_true rfl⟩) rfl hl.1 rfl (Nat.le_of_ble_eq_true rfl) ⟨Nat.zero_le _, Nat.zero_le _⟩ dX9_placeOf_27 (fun v I1 L1 H locs hR G => ?_)
        obtain ⟨hv, hI, hL⟩ := hR
        subst hv
        have G : GS E I L sg H locs := G.same hI hL
        refine W.eq (g2 := F0 mg 30 ls [.int (40 : Int32), .ref (E.2.2.2 162), .int ((0 : Int32) + pl1M d 40 2 0)]) rfl ?_
        refine lv_bipush (v := (12 : Int32)) S.1 S.2.1 dX9_placeOf_30 (by decide) ?_
        refine s_iadd (v := (52 : Int32)) S dX9_placeOf_32 (by decide) ?_
        refine lv_iconst (v := (3 : Int32)) S.1 S.2.1 dX9_placeOf_33 (by decide) ?_
        refine lv_iload S.1 S.2.1 dX9_placeOf_34 (lv_at hl 0 rfl) ?_
        refine s_imul (v := (3 : Int32)) S dX9_placeOf_36 (by decide) ?_
        refine s_iadd (v := (55 : Int32)) S dX9_placeOf_37 (by decide) ?_
        refine lv_iconst (v := (2 : Int32)) S.1 S.2.1 dX9_placeOf_38 (by decide) ?_
        refine s_iadd (v := (57 : Int32)) S dX9_placeOf_39 (by decide) ?_
        refine s_iald S hX G (i := 162) (kd := 284) (n := 270) (a := d) (x := (d 57)) (rfl : sh 162 = 284) e_d rfl (by decide) (by unfold vp_in; decide) (congrArg d (by decide)) dX9_placeOf_40 ?_
        refine lv_aload_n S.1 S.2.1 dX9_placeOf_41 rfl (lv_at hl 2 rfl) ?_
        refine s_get S hX G (i := 161) (kd := 9) (a := (I 161)) (v := .ref (E.2.2.2 162)) (C := RX9) (T := TX9) (N := 13) 0 (rfl : sh 161 = 9) rfl rfl rfl (by decide) rfl (fun _ h => (List.mem_cons_of_mem _ (List.mem_append_right _ h))) (by decide) (List.mem_of_getElem? (i := 1) rfl) (fun _ h => h) dX9_placeOf_42 ?_
        refine lv_iload_n S.1 S.2.1 dX9_placeOf_45 rfl (lv_at hl 3 rfl) ?_
        refine s_callS (As := [.int (0 : Int32)]) (rest := [.ref (E.2.2.2 162), .int (d 57), .int ((0 : Int32) + pl1M d 40 2 0)]) S hX G (k_X9_loadAt_0 l E) (va_cwS (bytes := cX9_loadAt) (maxL := 1) (ret := (some .int)) 1 S.2.2.2.2 gX9_placeOf_X9_loadAt rfl rfl rfl (by decide +kernel) ⟨Nat.le_of_ble_eq_true rfl, Nat.le_of_ble_eq_true rfl⟩) rfl hl.1 rfl (Nat.le_of_ble_eq_true rfl) ⟨Nat.zero_le _, Nat.zero_le _⟩ dX9_placeOf_46 (fun v I1 L1 H locs hR G => ?_)
        obtain ⟨hv, hI, hL⟩ := hR
        subst hv
        have G : GS E I L sg H locs := G.same hI hL
        refine W.eq (g2 := F0 mg 49 ls [.int (40 : Int32), .ref (E.2.2.2 162), .int (d 57), .int ((0 : Int32) + pl1M d 40 2 0)]) rfl ?_
        refine lv_bipush (v := (12 : Int32)) S.1 S.2.1 dX9_placeOf_49 (by decide) ?_
        refine s_iadd (v := (52 : Int32)) S dX9_placeOf_51 (by decide) ?_
        refine lv_iconst (v := (3 : Int32)) S.1 S.2.1 dX9_placeOf_52 (by decide) ?_
        refine lv_iload_n S.1 S.2.1 dX9_placeOf_53 rfl (lv_at hl 4 rfl) ?_
        refine s_imul (v := (6 : Int32)) S dX9_placeOf_54 (by decide) ?_
        refine s_iadd (v := (58 : Int32)) S dX9_placeOf_55 (by decide) ?_
        refine lv_iconst (v := (2 : Int32)) S.1 S.2.1 dX9_placeOf_56 (by decide) ?_
        refine s_iadd (v := (60 : Int32)) S dX9_placeOf_57 (by decide) ?_
        refine s_iald S hX G (i := 162) (kd := 284) (n := 270) (a := d) (x := (d 60)) (rfl : sh 162 = 284) e_d rfl (by decide) (by unfold vp_in; decide) (congrArg d (by decide)) dX9_placeOf_58 ?_
        refine lv_icmp_ge (tgt := 66) S.1 S.2.1 dX9_placeOf_59 (by decide) (fun c_6 => ?_) (fun c_6 => ?_)
        · refine lv_iconst (v := (0 : Int32)) S.1 S.2.1 dX9_placeOf_66 (by decide) ?_
          refine s_iadd (v := (((0 : Int32) + pl1M d 40 2 0) + (0 : Int32))) S dX9_placeOf_67 rfl ?_
          refine lv_istore_n (lv' := [(3, .int (((0 : Int32) + pl1M d 40 2 0) + (0 : Int32))), (4, .int (1 : Int32)), (0, .ref (E.2.2.2 161)), (1, .int (0 : Int32)), (2, .int (2 : Int32))]) S.1 S.2.1 dX9_placeOf_68 rfl hl (by decide) rfl (fun ls hl => ?_)
          refine lv_iinc (v := (2 : Int32)) (lv' := [(4, .int (2 : Int32)), (3, .int (((0 : Int32) + pl1M d 40 2 0) + (0 : Int32))), (0, .ref (E.2.2.2 161)), (1, .int (0 : Int32)), (2, .int (2 : Int32))]) S.1 S.2.1 dX9_placeOf_69 hl (k := 1) rfl (by decide) (by decide) rfl (fun ls hl => ?_)
          refine lv_goto (tgt := 5) S.1 S.2.1 dX9_placeOf_72 (by decide) ?_
          exact kJ_4 (((0 : Int32) + pl1M d 40 2 0) + (0 : Int32)) _ _ _ _ _ ⟨(show (((0 : Int32) + pl1M d 40 2 0) + (0 : Int32)) = ((0 : Int32) + pl1M d 40 2 0) + pl1M d 40 2 1 by first | (simp [pl1M, c_5, c_6]; done) | (clear S hX G hl; grind [pl1M])), rfl, rfl⟩ G (lv_sub hl [0, 1, 2, 3, 4] rfl)
        · refine lv_iconst (v := (1 : Int32)) S.1 S.2.1 dX9_placeOf_62 (by decide) ?_
          refine lv_goto (tgt := 67) S.1 S.2.1 dX9_placeOf_63 (by decide) ?_
          refine s_iadd (v := (((0 : Int32) + pl1M d 40 2 0) + (1 : Int32))) S dX9_placeOf_67 rfl ?_
          refine lv_istore_n (lv' := [(3, .int (((0 : Int32) + pl1M d 40 2 0) + (1 : Int32))), (4, .int (1 : Int32)), (0, .ref (E.2.2.2 161)), (1, .int (0 : Int32)), (2, .int (2 : Int32))]) S.1 S.2.1 dX9_placeOf_68 rfl hl (by decide) rfl (fun ls hl => ?_)
          refine lv_iinc (v := (2 : Int32)) (lv' := [(4, .int (2 : Int32)), (3, .int (((0 : Int32) + pl1M d 40 2 0) + (1 : Int32))), (0, .ref (E.2.2.2 161)), (1, .int (0 : Int32)), (2, .int (2 : Int32))]) S.1 S.2.1 dX9_placeOf_69 hl (k := 1) rfl (by decide) (by decide) rfl (fun ls hl => ?_)
          refine lv_goto (tgt := 5) S.1 S.2.1 dX9_placeOf_72 (by decide) ?_
          exact kJ_4 (((0 : Int32) + pl1M d 40 2 0) + (1 : Int32)) _ _ _ _ _ ⟨(show (((0 : Int32) + pl1M d 40 2 0) + (1 : Int32)) = ((0 : Int32) + pl1M d 40 2 0) + pl1M d 40 2 1 by first | (simp [pl1M, c_5, c_6]; done) | (clear S hX G hl; grind [pl1M])), rfl, rfl⟩ G (lv_sub hl [0, 1, 2, 3, 4] rfl)
    · obtain ⟨h0, hI, hL⟩ := hP
      have h0 : x = (((0 : Int32) + pl1M d 40 2 0) + pl1M d 40 2 1) := h0
      have hl : lv_has ls 5 [(4, .int (2 : Int32)), (3, .int x), (0, .ref (E.2.2.2 161)), (1, .int (0 : Int32)), (2, .int (2 : Int32))] := hl
      subst h0
      have G : GS E I L sg H locs := G.same hI hL
      refine W.eq (g2 := F0 mg 5 ls []) rfl ?_
      refine s_cut (α := Int32) (nL := 5) (E := E) (fun x I' L' => x = ((((0 : Int32) + pl1M d 40 2 0) + pl1M d 40 2 1) + pl1M d 40 2 2) ∧ I' = I ∧ L' = L) (fun x => [(4, .int (3 : Int32)), (3, .int x), (0, .ref (E.2.2.2 161)), (1, .int (0 : Int32)), (2, .int (2 : Int32))]) 5 (fun x => []) (fun kJ_7 => ?_) (fun x I1 L1 H locs ls hP G hl => ?_)
      · refine lv_iload S.1 S.2.1 dX9_placeOf_5 (lv_at hl 0 rfl) ?_
        refine lv_iconst (v := (3 : Int32)) S.1 S.2.1 dX9_placeOf_7 (by decide) ?_
        refine lv_icmp_ge (tgt := 75) S.1 S.2.1 dX9_placeOf_8 (by decide) (fun h => absurd h (by decide)) (fun _ => ?_)
        refine lv_iload_n S.1 S.2.1 dX9_placeOf_11 rfl (lv_at hl 1 rfl) ?_
        refine lv_aload_n S.1 S.2.1 dX9_placeOf_12 rfl (lv_at hl 2 rfl) ?_
        refine lv_iload_n S.1 S.2.1 dX9_placeOf_13 rfl (lv_at hl 3 rfl) ?_
        refine lv_iload S.1 S.2.1 dX9_placeOf_14 (lv_at hl 0 rfl) ?_
        refine s_callV (C := RX9) (As := [.int (0 : Int32), .int (2 : Int32)]) (rest := [.int (((0 : Int32) + pl1M d 40 2 0) + pl1M d 40 2 1)]) (i := 161) (kd := 9) S hX G (k_X9_isLatched_0_2 l E d e_d) (cwV (bytes := cX9_isLatched) (maxL := 3) (ret := (some .boolean)) 2 S.2.2.2.2 gX9_placeOf_X9_isLatched rfl rfl rfl (by decide +kernel) ⟨Nat.le_of_ble_eq_true rfl, Nat.le_of_ble_eq_true rfl⟩) (rfl : sh 161 = 9) rfl rfl rfl (by decide) rfl hl.1 rfl (Nat.le_of_ble_eq_true rfl) ⟨Nat.zero_le _, Nat.zero_le _⟩ dX9_placeOf_16 (fun v I1 L1 H locs hR G => ?_)
        obtain ⟨hv, hI, hL⟩ := hR
        subst hv
        have G : GS E I L sg H locs := G.same hI hL
        refine W.eq (g2 := F0 mg 19 ls [.int (if ¬ d 58 = -1 then 1 else 0), .int (((0 : Int32) + pl1M d 40 2 0) + pl1M d 40 2 1)]) rfl ?_
        refine s_if_eq_b (P := ¬ d 58 = -1) (tgt := 66) S dX9_placeOf_19 (by decide) (fun c_8 => ?_) (fun c_8 => ?_)
        · refine lv_iconst (v := (0 : Int32)) S.1 S.2.1 dX9_placeOf_66 (by decide) ?_
          refine s_iadd (v := ((((0 : Int32) + pl1M d 40 2 0) + pl1M d 40 2 1) + (0 : Int32))) S dX9_placeOf_67 rfl ?_
          refine lv_istore_n (lv' := [(3, .int ((((0 : Int32) + pl1M d 40 2 0) + pl1M d 40 2 1) + (0 : Int32))), (4, .int (2 : Int32)), (0, .ref (E.2.2.2 161)), (1, .int (0 : Int32)), (2, .int (2 : Int32))]) S.1 S.2.1 dX9_placeOf_68 rfl hl (by decide) rfl (fun ls hl => ?_)
          refine lv_iinc (v := (3 : Int32)) (lv' := [(4, .int (3 : Int32)), (3, .int ((((0 : Int32) + pl1M d 40 2 0) + pl1M d 40 2 1) + (0 : Int32))), (0, .ref (E.2.2.2 161)), (1, .int (0 : Int32)), (2, .int (2 : Int32))]) S.1 S.2.1 dX9_placeOf_69 hl (k := 1) rfl (by decide) (by decide) rfl (fun ls hl => ?_)
          refine lv_goto (tgt := 5) S.1 S.2.1 dX9_placeOf_72 (by decide) ?_
          exact kJ_7 ((((0 : Int32) + pl1M d 40 2 0) + pl1M d 40 2 1) + (0 : Int32)) _ _ _ _ _ ⟨(show ((((0 : Int32) + pl1M d 40 2 0) + pl1M d 40 2 1) + (0 : Int32)) = (((0 : Int32) + pl1M d 40 2 0) + pl1M d 40 2 1) + pl1M d 40 2 2 by first | (simp [pl1M, c_8]; done) | (clear S hX G hl; grind [pl1M])), rfl, rfl⟩ G (lv_sub hl [0, 1, 2, 3, 4] rfl)
        · refine lv_aload_n S.1 S.2.1 dX9_placeOf_22 rfl (lv_at hl 2 rfl) ?_
          refine s_get S hX G (i := 161) (kd := 9) (a := (I 161)) (v := .ref (E.2.2.2 162)) (C := RX9) (T := TX9) (N := 13) 0 (rfl : sh 161 = 9) rfl rfl rfl (by decide) rfl (fun _ h => (List.mem_cons_of_mem _ (List.mem_append_right _ h))) (by decide) (List.mem_of_getElem? (i := 1) rfl) (fun _ h => h) dX9_placeOf_23 ?_
          refine lv_iload_n S.1 S.2.1 dX9_placeOf_26 rfl (lv_at hl 3 rfl) ?_
          refine s_callS (As := [.int (0 : Int32)]) (rest := [.ref (E.2.2.2 162), .int (((0 : Int32) + pl1M d 40 2 0) + pl1M d 40 2 1)]) S hX G (k_X9_loadAt_0 l E) (va_cwS (bytes := cX9_loadAt) (maxL := 1) (ret := (some .int)) 1 S.2.2.2.2 gX9_placeOf_X9_loadAt rfl rfl rfl (by decide +kernel) ⟨Nat.le_of_ble_eq_true rfl, Nat.le_of_ble_eq_true rfl⟩) rfl hl.1 rfl (Nat.le_of_ble_eq_true rfl) ⟨Nat.zero_le _, Nat.zero_le _⟩ dX9_placeOf_27 (fun v I1 L1 H locs hR G => ?_)
          obtain ⟨hv, hI, hL⟩ := hR
          subst hv
          have G : GS E I L sg H locs := G.same hI hL
          refine W.eq (g2 := F0 mg 30 ls [.int (40 : Int32), .ref (E.2.2.2 162), .int (((0 : Int32) + pl1M d 40 2 0) + pl1M d 40 2 1)]) rfl ?_
          refine lv_bipush (v := (12 : Int32)) S.1 S.2.1 dX9_placeOf_30 (by decide) ?_
          refine s_iadd (v := (52 : Int32)) S dX9_placeOf_32 (by decide) ?_
          refine lv_iconst (v := (3 : Int32)) S.1 S.2.1 dX9_placeOf_33 (by decide) ?_
          refine lv_iload S.1 S.2.1 dX9_placeOf_34 (lv_at hl 0 rfl) ?_
          refine s_imul (v := (6 : Int32)) S dX9_placeOf_36 (by decide) ?_
          refine s_iadd (v := (58 : Int32)) S dX9_placeOf_37 (by decide) ?_
          refine lv_iconst (v := (2 : Int32)) S.1 S.2.1 dX9_placeOf_38 (by decide) ?_
          refine s_iadd (v := (60 : Int32)) S dX9_placeOf_39 (by decide) ?_
          refine s_iald S hX G (i := 162) (kd := 284) (n := 270) (a := d) (x := (d 60)) (rfl : sh 162 = 284) e_d rfl (by decide) (by unfold vp_in; decide) (congrArg d (by decide)) dX9_placeOf_40 ?_
          refine lv_aload_n S.1 S.2.1 dX9_placeOf_41 rfl (lv_at hl 2 rfl) ?_
          refine s_get S hX G (i := 161) (kd := 9) (a := (I 161)) (v := .ref (E.2.2.2 162)) (C := RX9) (T := TX9) (N := 13) 0 (rfl : sh 161 = 9) rfl rfl rfl (by decide) rfl (fun _ h => (List.mem_cons_of_mem _ (List.mem_append_right _ h))) (by decide) (List.mem_of_getElem? (i := 1) rfl) (fun _ h => h) dX9_placeOf_42 ?_
          refine lv_iload_n S.1 S.2.1 dX9_placeOf_45 rfl (lv_at hl 3 rfl) ?_
          refine s_callS (As := [.int (0 : Int32)]) (rest := [.ref (E.2.2.2 162), .int (d 60), .int (((0 : Int32) + pl1M d 40 2 0) + pl1M d 40 2 1)]) S hX G (k_X9_loadAt_0 l E) (va_cwS (bytes := cX9_loadAt) (maxL := 1) (ret := (some .int)) 1 S.2.2.2.2 gX9_placeOf_X9_loadAt rfl rfl rfl (by decide +kernel) ⟨Nat.le_of_ble_eq_true rfl, Nat.le_of_ble_eq_true rfl⟩) rfl hl.1 rfl (Nat.le_of_ble_eq_true rfl) ⟨Nat.zero_le _, Nat.zero_le _⟩ dX9_placeOf_46 (fun v I1 L1 H locs hR G => ?_)
          obtain ⟨hv, hI, hL⟩ := hR
          subst hv
          have G : GS E I L sg H locs := G.same hI hL
          refine W.eq (g2 := F0 mg 49 ls [.int (40 : Int32), .ref (E.2.2.2 162), .int (d 60), .int (((0 : Int32) + pl1M d 40 2 0) + pl1M d 40 2 1)]) rfl ?_
          refine lv_bipush (v := (12 : Int32)) S.1 S.2.1 dX9_placeOf_49 (by decide) ?_
          refine s_iadd (v := (52 : Int32)) S dX9_placeOf_51 (by decide) ?_
          refine lv_iconst (v := (3 : Int32)) S.1 S.2.1 dX9_placeOf_52 (by decide) ?_
          refine lv_iload_n S.1 S.2.1 dX9_placeOf_53 rfl (lv_at hl 4 rfl) ?_
          refine s_imul (v := (6 : Int32)) S dX9_placeOf_54 (by decide) ?_
          refine s_iadd (v := (58 : Int32)) S dX9_placeOf_55 (by decide) ?_
          refine lv_iconst (v := (2 : Int32)) S.1 S.2.1 dX9_placeOf_56 (by decide) ?_
          refine s_iadd (v := (60 : Int32)) S dX9_placeOf_57 (by decide) ?_
          refine s_iald S hX G (i := 162) (kd := 284) (n := 270) (a := d) (x := (d 60)) (rfl : sh 162 = 284) e_d rfl (by decide) (by unfold vp_in; decide) (congrArg d (by decide)) dX9_placeOf_58 ?_
          refine lv_icmp_ge (tgt := 66) S.1 S.2.1 dX9_placeOf_59 (by decide) (fun c_9 => ?_) (fun c_9 => ?_)
          · refine lv_iconst (v := (0 : Int32)) S.1 S.2.1 dX9_placeOf_66 (by decide) ?_
            refine s_iadd (v := ((((0 : Int32) + pl1M d 40 2 0) + pl1M d 40 2 1) + (0 : Int32))) S dX9_placeOf_67 rfl ?_
            refine lv_istore_n (lv' := [(3, .int ((((0 : Int32) + pl1M d 40 2 0) + pl1M d 40 2 1) + (0 : Int32))), (4, .int (2 : Int32)), (0, .ref (E.2.2.2 161)), (1, .int (0 : Int32)), (2, .int (2 : Int32))]) S.1 S.2.1 dX9_placeOf_68 rfl hl (by decide) rfl (fun ls hl => ?_)
            refine lv_iinc (v := (3 : Int32)) (lv' := [(4, .int (3 : Int32)), (3, .int ((((0 : Int32) + pl1M d 40 2 0) + pl1M d 40 2 1) + (0 : Int32))), (0, .ref (E.2.2.2 161)), (1, .int (0 : Int32)), (2, .int (2 : Int32))]) S.1 S.2.1 dX9_placeOf_69 hl (k := 1) rfl (by decide) (by decide) rfl (fun ls hl => ?_)
            refine lv_goto (tgt := 5) S.1 S.2.1 dX9_placeOf_72 (by decide) ?_
            exact kJ_7 ((((0 : Int32) + pl1M d 40 2 0) + pl1M d 40 2 1) + (0 : Int32)) _ _ _ _ _ ⟨(show ((((0 : Int32) + pl1M d 40 2 0) + pl1M d 40 2 1) + (0 : Int32)) = (((0 : Int32) + pl1M d 40 2 0) + pl1M d 40 2 1) + pl1M d 40 2 2 by first | (simp [pl1M, c_8, c_9]; done) | (clear S hX G hl; grind [pl1M])), rfl, rfl⟩ G (lv_sub hl [0, 1, 2, 3, 4] rfl)
          · refine lv_iconst (v := (1 : Int32)) S.1 S.2.1 dX9_placeOf_62 (by decide) ?_
            refine lv_goto (tgt := 67) S.1 S.2.1 dX9_placeOf_63 (by decide) ?_
            refine s_iadd (v := ((((0 : Int32) + pl1M d 40 2 0) + pl1M d 40 2 1) + (1 : Int32))) S dX9_placeOf_67 rfl ?_
            refine lv_istore_n (lv' := [(3, .int ((((0 : Int32) + pl1M d 40 2 0) + pl1M d 40 2 1) + (1 : Int32))), (4, .int (2 : Int32)), (0, .ref (E.2.2.2 161)), (1, .int (0 : Int32)), (2, .int (2 : Int32))]) S.1 S.2.1 dX9_placeOf_68 rfl hl (by decide) rfl (fun ls hl => ?_)
            refine lv_iinc (v := (3 : Int32)) (lv' := [(4, .int (3 : Int32)), (3, .int ((((0 : Int32) + pl1M d 40 2 0) + pl1M d 40 2 1) + (1 : Int32))), (0, .ref (E.2.2.2 161)), (1, .int (0 : Int32)), (2, .int (2 : Int32))]) S.1 S.2.1 dX9_placeOf_69 hl (k := 1) rfl (by decide) (by decide) rfl (fun ls hl => ?_)
            refine lv_goto (tgt := 5) S.1 S.2.1 dX9_placeOf_72 (by decide) ?_
            exact kJ_7 ((((0 : Int32) + pl1M d 40 2 0) + pl1M d 40 2 1) + (1 : Int32)) _ _ _ _ _ ⟨(show ((((0 : Int32) + pl1M d 40 2 0) + pl1M d 40 2 1) + (1 : Int32)) = (((0 : Int32) + pl1M d 40 2 0) + pl1M d 40 2 1) + pl1M d 40 2 2 by first | (simp [pl1M, c_8, c_9]; done) | (clear S hX G hl; grind [pl1M])), rfl, rfl⟩ G (lv_sub hl [0, 1, 2, 3, 4] rfl)
      · obtain ⟨h0, hI, hL⟩ := hP
        have h0 : x = ((((0 : Int32) + pl1M d 40 2 0) + pl1M d 40 2 1) + pl1M d 40 2 2) := h0
        have hl : lv_has ls 5 [(4, .int (3 : Int32)), (3, .int x), (0, .ref (E.2.2.2 161)), (1, .int (0 : Int32)), (2, .int (2 : Int32))] := hl
        subst h0
        have G : GS E I L sg H locs := G.same hI hL
        refine W.eq (g2 := F0 mg 5 ls []) rfl ?_
        refine lv_iload S.1 S.2.1 dX9_placeOf_5 (lv_at hl 0 rfl) ?_
        refine lv_iconst (v := (3 : Int32)) S.1 S.2.1 dX9_placeOf_7 (by decide) ?_
        refine lv_icmp_ge (tgt := 75) S.1 S.2.1 dX9_placeOf_8 (by decide) (fun _ => ?_) (fun h => absurd (by decide) h)
        refine lv_iload_n S.1 S.2.1 dX9_placeOf_75 rfl (lv_at hl 1 rfl) ?_
        refine s_iret (x := ((((0 : Int32) + pl1M d 40 2 0) + pl1M d 40 2 1) + pl1M d 40 2 2)) S G hr hlk dX9_placeOf_76 ?_
        exact ⟨(congrArg (fun q : Int32 => some (Value.int q)) (show ((((0 : Int32) + pl1M d 40 2 0) + pl1M d 40 2 1) + pl1M d 40 2 2) = (plcM d 40 2) by rfl)), rfl, rfl⟩
set_option maxHeartbeats 4000000 in
set_option maxRecDepth 100000 in
theorem k_X9_canClear_0_2 (l : Launch) (E : Ev) {I : SI} {L : SL} (d : Nat → Int32) (e_d : I (162) = d) : CS l yX9_canClear wsX9_canClear ({ frames := 3, cells := 0, slots := 0, locals := 66 }) E [.ref (E.2.2.2 161), .int (0 : Int32), .int (2 : Int32)] I L (fun vv I' L' => vv = some (.int (if ¬ d 58 = -1 ∧ ¬ ¬ plcM d 40 2 ≤ 0 ∧ ¬ d 5 / 2 < d 45 then 1 else 0)) ∧ I' = I ∧ L' = L) := by
  refine CS.of (cc := cX9_canClear) (maxL := 3) (ret := (some .boolean)) (by decide) rfl (Nat.le_of_ble_eq_true rfl) ?_
  intro pg en sg mg below meth cg ls S hr hlk hX G hl
  have S : CallFix pg mg cg cX9_canClear 3 sg _ wsX9_canClear RX9 := S
  have hl : lv_has ls 3 [(0, .ref (E.2.2.2 161)), (1, .int (0 : Int32)), (2, .int (2 : Int32))] := hl
  refine lv_aload_n S.1 S.2.1 dX9_canClear_0 rfl (lv_at hl 0 rfl) ?_
  refine lv_iload_n S.1 S.2.1 dX9_canClear_1 rfl (lv_at hl 1 rfl) ?_
  refine lv_iload_n S.1 S.2.1 dX9_canClear_2 rfl (lv_at hl 2 rfl) ?_
  refine s_callV (C := RX9) (As := [.int (0 : Int32), .int (2 : Int32)]) (rest := []) (i := 161) (kd := 9) S hX G (k_X9_isLatched_0_2 l E d e_d) (cwV (bytes := cX9_isLatched) (maxL := 3) (ret := (some .boolean)) 2 S.2.2.2.2 gX9_canClear_X9_isLatched rfl rfl rfl (by decide +kernel) ⟨Nat.le_of_ble_eq_true rfl, Nat.le_of_ble_eq_true rfl⟩) (rfl : sh 161 = 9) rfl rfl rfl (by decide) rfl hl.1 rfl (Nat.le_of_ble_eq_true rfl) ⟨Nat.zero_le _, Nat.zero_le _⟩ dX9_canClear_3 (fun v I1 L1 H locs hR G => ?_)
  obtain ⟨hv, hI, hL⟩ := hR
  subst hv
  have G : GS E I L sg H locs := G.same hI hL
  refine W.eq (g2 := F0 mg 6 ls [.int (if ¬ d 58 = -1 then 1 else 0)]) rfl ?_
  refine s_if_eq_b (P := ¬ d 58 = -1) (tgt := 18) S dX9_canClear_6 (by decide) (fun c_1 => ?_) (fun c_1 => ?_)
  · refine lv_iconst (v := (0 : Int32)) S.1 S.2.1 dX9_canClear_18 (by decide) ?_
    refine s_zret (x := (0 : Int32)) S G hr hlk dX9_canClear_19 (Or.inl rfl) ?_
    exact ⟨(congrArg (fun q : Int32 => some (Value.int q)) (show (0 : Int32) = (if ¬ d 58 = -1 ∧ ¬ ¬ plcM d 40 2 ≤ 0 ∧ ¬ d 5 / 2 < d 45 then 1 else 0) by first | (simp [c_1]; done) | (clear S hX G hl; grind))), rfl, rfl⟩
  · refine lv_aload_n S.1 S.2.1 dX9_canClear_9 rfl (lv_at hl 0 rfl) ?_
    refine lv_iload_n S.1 S.2.1 dX9_canClear_10 rfl (lv_at hl 1 rfl) ?_
    refine lv_iload_n S.1 S.2.1 dX9_canClear_11 rfl (lv_at hl 2 rfl) ?_
    refine s_callV (C := RX9) (As := [.int (0 : Int32), .int (2 : Int32)]) (rest := []) (i := 161) (kd := 9) S hX G (k_X9_placeOf_0_2 l E d e_d) (cwV (bytes := cX9_placeOf) (maxL := 5) (ret := (some .int)) 2 S.2.2.2.2 gX9_canClear_X9_placeOf rfl rfl rfl (by decide +kernel) ⟨Nat.le_of_ble_eq_true rfl, Nat.le_of_ble_eq_true rfl⟩) (rfl : sh 161 = 9) rfl rfl rfl (by decide) rfl hl.1 rfl (Nat.le_of_ble_eq_true rfl) ⟨Nat.zero_le _, Nat.zero_le _⟩ dX9_canClear_12 (fun v I1 L1 H locs hR G => ?_)
    obtain ⟨hv, hI, hL⟩ := hR
    subst hv
    have G : GS E I L sg H locs := G.same hI hL
    refine W.eq (g2 := F0 mg 15 ls [.int (plcM d 40 2)]) rfl ?_
    refine lv_topi (fun y_2 ey_2 => ?_)
    refine lv_if_le (tgt := 20) S.1 S.2.1 dX9_canClear_15 (by decide) (fun c_3 => ?_) (fun c_3 => ?_)
    · refine lv_iload_n S.1 S.2.1 dX9_canClear_20 rfl (lv_at hl 2 rfl) ?_
      refine lv_if_ne (tgt := 46) S.1 S.2.1 dX9_canClear_21 (by decide) (fun _ => ?_) (fun h => absurd h (by decide))
      refine lv_iload_n S.1 S.2.1 dX9_canClear_46 rfl (lv_at hl 2 rfl) ?_
      refine lv_iconst (v := (1 : Int32)) S.1 S.2.1 dX9_canClear_47 (by decide) ?_
      refine lv_icmp_eq (tgt := 73) S.1 S.2.1 dX9_canClear_48 (by decide) (fun h => absurd h (by decide)) (fun _ => ?_)
      refine lv_aload_n S.1 S.2.1 dX9_canClear_51 rfl (lv_at hl 0 rfl) ?_
      refine s_get S hX G (i := 161) (kd := 9) (a := (I 161)) (v := .ref (E.2.2.2 162)) (C := RX9) (T := TX9) (N := 13) 0 (rfl : sh 161 = 9) rfl rfl rfl (by decide) rfl (fun _ h => (List.mem_cons_of_mem _ (List.mem_append_right _ h))) (by decide) (List.mem_of_getElem? (i := 1) rfl) (fun _ h => h) dX9_canClear_52 ?_
      refine lv_iload_n S.1 S.2.1 dX9_canClear_55 rfl (lv_at hl 1 rfl) ?_
      refine s_callS (As := [.int (0 : Int32)]) (rest := [.ref (E.2.2.2 162)]) S hX G (k_X9_loadAt_0 l E) (va_cwS (bytes := cX9_loadAt) (maxL := 1) (ret := (some .int)) 1 S.2.2.2.2 gX9_canClear_X9_loadAt rfl rfl rfl (by decide +kernel) ⟨Nat.le_of_ble_eq_true rfl, Nat.le_of_ble_eq_true rfl⟩) rfl hl.1 rfl (Nat.le_of_ble_eq_true rfl) ⟨Nat.zero_le _, Nat.zero_le _⟩ dX9_canClear_56 (fun v I1 L1 H locs hR G => ?_)
      obtain ⟨hv, hI, hL⟩ := hR
      subst hv
      have G : GS E I L sg H locs := G.same hI hL
      refine W.eq (g2 := F0 mg 59 ls [.int (40 : Int32), .ref (E.2.2.2 162)]) rfl ?_
      refine lv_iconst (v := (5 : Int32)) S.1 S.2.1 dX9_canClear_59 (by decide) ?_
      refine s_iadd (v := (45 : Int32)) S dX9_canClear_60 (by decide) ?_
      refine s_iald S hX G (i := 162) (kd := 284) (n := 270) (a := d) (x := (d 45)) (rfl : sh 162 = 284) e_d rfl (by decide) (by unfold vp_in; decide) (congrArg d (by decide)) dX9_canClear_61 ?_
      refine lv_aload_n S.1 S.2.1 dX9_canClear_62 rfl (lv_at hl 0 rfl) ?_
      refine s_get S hX G (i := 161) (kd := 9) (a := (I 161)) (v := .ref (E.2.2.2 162)) (C := RX9) (T := TX9) (N := 13) 0 (rfl : sh 161 = 9) rfl rfl rfl (by decide) rfl (fun _ h => (List.mem_cons_of_mem _ (List.mem_append_right _ h))) (by decide) (List.mem_of_getElem? (i := 1) rfl) (fun _ h => h) dX9_canClear_63 ?_
      refine lv_iconst (v := (5 : Int32)) S.1 S.2.1 dX9_canClear_66 (by decide) ?_
      refine s_iald S hX G (i := 162) (kd := 284) (n := 270) (a := d) (x := (d 5)) (rfl : sh 162 = 284) e_d rfl (by decide) (by unfold vp_in; decide) (congrArg d (by decide)) dX9_canClear_67 ?_
      refine lv_iconst (v := (2 : Int32)) S.1 S.2.1 dX9_canClear_68 (by decide) ?_
      refine s_idiv (v := ((d 5) / (2 : Int32))) S dX9_canClear_69 (by decide) rfl ?_
      refine lv_icmp_gt (tgt := 77) S.1 S.2.1 dX9_canClear_70 (by decide) (fun c_4 => ?_) (fun c_4 => ?_)
      · refine lv_iconst (v := (0 : Int32)) S.1 S.2.1 dX9_canClear_77 (by decide) ?_
        refine s_zret (x := (0 : Int32)) S G hr hlk dX9_canClear_78 (Or.inl rfl) ?_
        exact ⟨(congrArg (fun q : Int32 => some (Value.int q)) (show (0 : Int32) = (if ¬ d 58 = -1 ∧ ¬ ¬ plcM d 40 2 ≤ 0 ∧ ¬ d 5 / 2 < d 45 then 1 else 0) by subst ey_2; (first | (simp [c_1, c_3, c_4]; done) | (clear S hX G hl; grind)))), rfl, rfl⟩
      · refine lv_iconst (v := (1 : Int32)) S.1 S.2.1 dX9_canClear_73 (by decide) ?_
        refine lv_goto (tgt := 78) S.1 S.2.1 dX9_canClear_74 (by decide) ?_
        refine s_zret (x := (1 : Int32)) S G hr hlk dX9_canClear_78 (Or.inr rfl) ?_
        exact ⟨(congrArg (fun q : Int32 => some (Value.int q)) (show (1 : Int32) = (if ¬ d 58 = -1 ∧ ¬ ¬ plcM d 40 2 ≤ 0 ∧ ¬ d 5 / 2 < d 45 then 1 else 0) by subst ey_2; (first | (simp [c_1, c_3, c_4]; done) | (clear S hX G hl; grind)))), rfl, rfl⟩
    · refine lv_iconst (v := (0 : Int32)) S.1 S.2.1 dX9_canClear_18 (by decide) ?_
      refine s_zret (x := (0 : Int32)) S G hr hlk dX9_canClear_19 (Or.inl rfl) ?_
      exact ⟨(congrArg (fun q : Int32 => some (Value.int q)) (show (0 : Int32) = (if ¬ d 58 = -1 ∧ ¬ ¬ plcM d 40 2 ≤ 0 ∧ ¬ d 5 / 2 < d 45 then 1 else 0) by subst ey_2; (first | (simp [c_1, c_3]; done) | (clear S hX G hl; grind)))), rfl, rfl⟩
set_option maxHeartbeats 4000000 in
set_option maxRecDepth 100000 in
theorem k_X9_placeOf_1_0 (l : Launch) (E : Ev) {I : SI} {L : SL} (d : Nat → Int32) (e_d : I (162) = d) : CS l yX9_placeOf wsX9_placeOf ({ frames := 2, cells := 0, slots := 0, locals := 42 }) E [.ref (E.2.2.2 161), .int (1 : Int32), .int (0 : Int32)] I L (fun vv I' L' => vv = some (.int (plcM d 70 0)) ∧ I' = I ∧ L' = L) := by
  refine CS.of (cc := cX9_placeOf) (maxL := 5) (ret := (some .int)) (by decide) rfl (Nat.le_of_ble_eq_true rfl) ?_
  intro pg en sg mg below meth cg ls S hr hlk hX G hl
  have S : CallFix pg mg cg cX9_placeOf 5 sg _ wsX9_placeOf RX9 := S
  have hl : lv_has ls 5 [(0, .ref (E.2.2.2 161)), (1, .int (1 : Int32)), (2, .int (0 : Int32))] := hl
  refine lv_iconst (v := (0 : Int32)) S.1 S.2.1 dX9_placeOf_0 (by decide) ?_
  refine lv_istore_n (lv' := [(3, .int (0 : Int32)), (0, .ref (E.2.2.2 161)), (1, .int (1 : Int32)), (2, .int (0 : Int32))]) S.1 S.2.1 dX9_placeOf_1 rfl hl (by decide) rfl (fun ls hl => ?_)
  refine lv_iconst (v := (0 : Int32)) S.1 S.2.1 dX9_placeOf_2 (by decide) ?_
  refine lv_istore (lv' := [(4, .int (0 : Int32)), (3, .int (0 : Int32)), (0, .ref (E.2.2.2 161)), (1, .int (1 : Int32)), (2, .int (0 : Int32))]) S.1 S.2.1 dX9_placeOf_3 hl (by decide) rfl (fun ls hl => ?_)
  refine s_cut (α := Int32) (nL := 5) (E := E) (fun x I' L' => x = ((0 : Int32) + pl1M d 70 0 0) ∧ I' = I ∧ L' = L) (fun x => [(4, .int (1 : Int32)), (3, .int x), (0, .ref (E.2.2.2 161)), (1, .int (1 : Int32)), (2, .int (0 : Int32))]) 5 (fun x => []) (fun kJ_1 => ?_) (fun x I1 L1 H locs ls hP G hl => ?_)
  · refine lv_iload S.1 S.2.1 dX9_placeOf_5 (lv_at hl 0 rfl) ?_
    refine lv_iconst (v := (3 : Int32)) S.1 S.2.1 dX9_placeOf_7 (by decide) ?_
    refine lv_icmp_ge (tgt := 75) S.1 S.2.1 dX9_placeOf_8 (by decide) (fun h => absurd h (by decide)) (fun _ => ?_)
    refine lv_iload_n S.1 S.2.1 dX9_placeOf_11 rfl (lv_at hl 1 rfl) ?_
    refine lv_aload_n S.1 S.2.1 dX9_placeOf_12 rfl (lv_at hl 2 rfl) ?_
    refine lv_iload_n S.1 S.2.1 dX9_placeOf_13 rfl (lv_at hl 3 rfl) ?_
    refine lv_iload S.1 S.2.1 dX9_placeOf_14 (lv_at hl 0 rfl) ?_
    refine s_callV (C := RX9) (As := [.int (1 : Int32), .int (0 : Int32)]) (rest := [.int (0 : Int32)]) (i := 161) (kd := 9) S hX G (k_X9_isLatched_1_0 l E d e_d) (cwV (bytes := cX9_isLatched) (maxL := 3) (ret := (some .boolean)) 2 S.2.2.2.2 gX9_placeOf_X9_isLatched rfl rfl rfl (by decide +kernel) ⟨Nat.le_of_ble_eq_true rfl, Nat.le_of_ble_eq_true rfl⟩) (rfl : sh 161 = 9) rfl rfl rfl (by decide) rfl hl.1 rfl (Nat.le_of_ble_eq_true rfl) ⟨Nat.zero_le _, Nat.zero_le _⟩ dX9_placeOf_16 (fun v I1 L1 H locs hR G => ?_)
    obtain ⟨hv, hI, hL⟩ := hR
    subst hv
    have G : GS E I L sg H locs := G.same hI hL
    refine W.eq (g2 := F0 mg 19 ls [.int (if ¬ d 82 = -1 then 1 else 0), .int (0 : Int32)]) rfl ?_
    refine s_if_eq_b (P := ¬ d 82 = -1) (tgt := 66) S dX9_placeOf_19 (by decide) (fun c_2 => ?_) (fun c_2 => ?_)
    · refine lv_iconst (v := (0 : Int32)) S.1 S.2.1 dX9_placeOf_66 (by decide) ?_
      refine s_iadd (v := (0 : Int32)) S dX9_placeOf_67 (by decide) ?_
      refine lv_istore_n (lv' := [(3, .int (0 : Int32)), (4, .int (0 : Int32)), (0, .ref (E.2.2.2 161)), (1, .int (1 : Int32)), (2, .int (0 : Int32))]) S.1 S.2.1 dX9_placeOf_68 rfl hl (by decide) rfl (fun ls hl => ?_)
      refine lv_iinc (v := (1 : Int32)) (lv' := [(4, .int (1 : Int32)), (3, .int (0 : Int32)), (0, .ref (E.2.2.2 161)), (1, .int (1 : Int32)), (2, .int (0 : Int32))]) S.1 S.2.1 dX9_placeOf_69 hl (k := 1) rfl (by decide) (by decide) rfl (fun ls hl => ?_)
      refine lv_goto (tgt := 5) S.1 S.2.1 dX9_placeOf_72 (by decide) ?_
      exact kJ_1 (0 : Int32) _ _ _ _ _ ⟨(show (0 : Int32) = (0 : Int32) + pl1M d 70 0 0 by first | (simp [pl1M, c_2]; done) | (clear S hX G hl; grind [pl1M])), rfl, rfl⟩ G (lv_sub hl [0, 1, 2, 3, 4] rfl)
    · refine lv_aload_n S.1 S.2.1 dX9_placeOf_22 rfl (lv_at hl 2 rfl) ?_
      refine s_get S hX G (i := 161) (kd := 9) (a := (I 161)) (v := .ref (E.2.2.2 162)) (C := RX9) (T := TX9) (N := 13) 0 (rfl : sh 161 = 9) rfl rfl rfl (by decide) rfl (fun _ h => (List.mem_cons_of_mem _ (List.mem_append_right _ h))) (by decide) (List.mem_of_getElem? (i := 1) rfl) (fun _ h => h) dX9_placeOf_23 ?_
      refine lv_iload_n S.1 S.2.1 dX9_placeOf_26 rfl (lv_at hl 3 rfl) ?_
      refine s_callS (As := [.int (1 : Int32)]) (rest := [.ref (E.2.2.2 162), .int (0 : Int32)]) S hX G (k_X9_loadAt_1 l E) (va_cwS (bytes := cX9_loadAt) (maxL := 1) (ret := (some .int)) 1 S.2.2.2.2 gX9_placeOf_X9_loadAt rfl rfl rfl (by decide +kernel) ⟨Nat.le_of_ble_eq_true rfl, Nat.le_of_ble_eq_true rfl⟩) rfl hl.1 rfl (Nat.le_of_ble_eq_true rfl) ⟨Nat.zero_le _, Nat.zero_le _⟩ dX9_placeOf_27 (fun v I1 L1 H locs hR G => ?_)
      obtain ⟨hv, hI, hL⟩ := hR
      subst hv
      have G : GS E I L sg H locs := G.same hI hL
      refine W.eq (g2 := F0 mg 30 ls [.int (70 : Int32), .ref (E.2.2.2 162), .int (0 : Int32)]) rfl ?_
      refine lv_bipush (v := (12 : Int32)) S.1 S.2.1 dX9_placeOf_30 (by decide) ?_
      refine s_iadd (v := (82 : Int32)) S dX9_placeOf_32 (by decide) ?_
      refine lv_iconst (v := (3 : Int32)) S.1 S.2.1 dX9_placeOf_33 (by decide) ?_
      refine lv_iload S.1 S.2.1 dX9_placeOf_34 (lv_at hl 0 rfl) ?_
      refine s_imul (v := (0 : Int32)) S dX9_placeOf_36 (by decide) ?_
      refine s_iadd (v := (82 : Int32)) S dX9_placeOf_37 (by decide) ?_
      refine lv_iconst (v := (2 : Int32)) S.1 S.2.1 dX9_placeOf_38 (by decide) ?_
      refine s_iadd (v := (84 : Int32)) S dX9_placeOf_39 (by decide) ?_
      refine s_iald S hX G (i := 162) (kd := 284) (n := 270) (a := d) (x := (d 84)) (rfl : sh 162 = 284) e_d rfl (by decide) (by unfold vp_in; decide) (congrArg d (by decide)) dX9_placeOf_40 ?_
      refine lv_aload_n S.1 S.2.1 dX9_placeOf_41 rfl (lv_at hl 2 rfl) ?_
      refine s_get S hX G (i := 161) (kd := 9) (a := (I 161)) (v := .ref (E.2.2.2 162)) (C := RX9) (T := TX9) (N := 13) 0 (rfl : sh 161 = 9) rfl rfl rfl (by decide) rfl (fun _ h => (List.mem_cons_of_mem _ (List.mem_append_right _ h))) (by decide) (List.mem_of_getElem? (i := 1) rfl) (fun _ h => h) dX9_placeOf_42 ?_
      refine lv_iload_n S.1 S.2.1 dX9_placeOf_45 rfl (lv_at hl 3 rfl) ?_
      refine s_callS (As := [.int (1 : Int32)]) (rest := [.ref (E.2.2.2 162), .int (d 84), .int (0 : Int32)]) S hX G (k_X9_loadAt_1 l E) (va_cwS (bytes := cX9_loadAt) (maxL := 1) (ret := (some .int)) 1 S.2.2.2.2 gX9_placeOf_X9_loadAt rfl rfl rfl (by decide +kernel) ⟨Nat.le_of_ble_eq_true rfl, Nat.le_of_ble_eq_true rfl⟩) rfl hl.1 rfl (Nat.le_of_ble_eq_true rfl) ⟨Nat.zero_le _, Nat.zero_le _⟩ dX9_placeOf_46 (fun v I1 L1 H locs hR G => ?_)
      obtain ⟨hv, hI, hL⟩ := hR
      subst hv
      have G : GS E I L sg H locs := G.same hI hL
      refine W.eq (g2 := F0 mg 49 ls [.int (70 : Int32), .ref (E.2.2.2 162), .int (d 84), .int (0 : Int32)]) rfl ?_
      refine lv_bipush (v := (12 : Int32)) S.1 S.2.1 dX9_placeOf_49 (by decide) ?_
      refine s_iadd (v := (82 : Int32)) S dX9_placeOf_51 (by decide) ?_
      refine lv_iconst (v := (3 : Int32)) S.1 S.2.1 dX9_placeOf_52 (by decide) ?_
      refine lv_iload_n S.1 S.2.1 dX9_placeOf_53 rfl (lv_at hl 4 rfl) ?_
      refine s_imul (v := (0 : Int32)) S dX9_placeOf_54 (by decide) ?_
      refine s_iadd (v := (82 : Int32)) S dX9_placeOf_55 (by decide) ?_
      refine lv_iconst (v := (2 : Int32)) S.1 S.2.1 dX9_placeOf_56 (by decide) ?_
      refine s_iadd (v := (84 : Int32)) S dX9_placeOf_57 (by decide) ?_
      refine s_iald S hX G (i := 162) (kd := 284) (n := 270) (a := d) (x := (d 84)) (rfl : sh 162 = 284) e_d rfl (by decide) (by unfold vp_in; decide) (congrArg d (by decide)) dX9_placeOf_58 ?_
      refine lv_icmp_ge (tgt := 66) S.1 S.2.1 dX9_placeOf_59 (by decide) (fun c_3 => ?_) (fun c_3 => ?_)
      · refine lv_iconst (v := (0 : Int32)) S.1 S.2.1 dX9_placeOf_66 (by decide) ?_
        refine s_iadd (v := (0 : Int32)) S dX9_placeOf_67 (by decide) ?_
        refine lv_istore_n (lv' := [(3, .int (0 : Int32)), (4, .int (0 : Int32)), (0, .ref (E.2.2.2 161)), (1, .int (1 : Int32)), (2, .int (0 : Int32))]) S.1 S.2.1 dX9_placeOf_68 rfl hl (by decide) rfl (fun ls hl => ?_)
        refine lv_iinc (v := (1 : Int32)) (lv' := [(4, .int (1 : Int32)), (3, .int (0 : Int32)), (0, .ref (E.2.2.2 161)), (1, .int (1 : Int32)), (2, .int (0 : Int32))]) S.1 S.2.1 dX9_placeOf_69 hl (k := 1) rfl (by decide) (by decide) rfl (fun ls hl => ?_)
        refine lv_goto (tgt := 5) S.1 S.2.1 dX9_placeOf_72 (by decide) ?_
        exact kJ_1 (0 : Int32) _ _ _ _ _ ⟨(show (0 : Int32) = (0 : Int32) + pl1M d 70 0 0 by first | (simp [pl1M, c_2, c_3]; done) | (clear S hX G hl; grind [pl1M])), rfl, rfl⟩ G (lv_sub hl [0, 1, 2, 3, 4] rfl)
      · refine lv_iconst (v := (1 : Int32)) S.1 S.2.1 dX9_placeOf_62 (by decide) ?_
        refine lv_goto (tgt := 67) S.1 S.2.1 dX9_placeOf_63 (by decide) ?_
        refine s_iadd (v := (1 : Int32)) S dX9_placeOf_67 (by decide) ?_
        refine lv_istore_n (lv' := [(3, .int (1 : Int32)), (4, .int (0 : Int32)), (0, .ref (E.2.2.2 161)), (1, .int (1 : Int32)), (2, .int (0 : Int32))]) S.1 S.2.1 dX9_placeOf_68 rfl hl (by decide) rfl (fun ls hl => ?_)
        refine lv_iinc (v := (1 : Int32)) (lv' := [(4, .int (1 : Int32)), (3, .int (1 : Int32)), (0, .ref (E.2.2.2 161)), (1, .int (1 : Int32)), (2, .int (0 : Int32))]) S.1 S.2.1 dX9_placeOf_69 hl (k := 1) rfl (by decide) (by decide) rfl (fun ls hl => ?_)
        refine lv_goto (tgt := 5) S.1 S.2.1 dX9_placeOf_72 (by decide) ?_
        exact kJ_1 (1 : Int32) _ _ _ _ _ ⟨(show (1 : Int32) = (0 : Int32) + pl1M d 70 0 0 by first | (simp [pl1M, c_2, c_3]; done) | (clear S hX G hl; grind [pl1M])), rfl, rfl⟩ G (lv_sub hl [0, 1, 2, 3, 4] rfl)
  · obtain ⟨h0, hI, hL⟩ := hP
    have h0 : x = ((0 : Int32) + pl1M d 70 0 0) := h0
    have hl : lv_has ls 5 [(4, .int (1 : Int32)), (3, .int x), (0, .ref (E.2.2.2 161)), (1, .int (1 : Int32)), (2, .int (0 : Int32))] := hl
    subst h0
    have G : GS E I L sg H locs := G.same hI hL
    refine W.eq (g2 := F0 mg 5 ls []) rfl ?_
    refine s_cut (α := Int32) (nL := 5) (E := E) (fun x I' L' => x = (((0 : Int32) + pl1M d 70 0 0) + pl1M d 70 0 1) ∧ I' = I ∧ L' = L) (fun x => [(4, .int (2 : Int32)), (3, .int x), (0, .ref (E.2.2.2 161)), (1, .int (1 : Int32)), (2, .int (0 : Int32))]) 5 (fun x => []) (fun kJ_4 => ?_) (fun x I1 L1 H locs ls hP G hl => ?_)
    · refine lv_iload S.1 S.2.1 dX9_placeOf_5 (lv_at hl 0 rfl) ?_
      refine lv_iconst (v := (3 : Int32)) S.1 S.2.1 dX9_placeOf_7 (by decide) ?_
      refine lv_icmp_ge (tgt := 75) S.1 S.2.1 dX9_placeOf_8 (by decide) (fun h => absurd h (by decide)) (fun _ => ?_)
      refine lv_iload_n S.1 S.2.1 dX9_placeOf_11 rfl (lv_at hl 1 rfl) ?_
      refine lv_aload_n S.1 S.2.1 dX9_placeOf_12 rfl (lv_at hl 2 rfl) ?_
      refine lv_iload_n S.1 S.2.1 dX9_placeOf_13 rfl (lv_at hl 3 rfl) ?_
      refine lv_iload S.1 S.2.1 dX9_placeOf_14 (lv_at hl 0 rfl) ?_
      refine s_callV (C := RX9) (As := [.int (1 : Int32), .int (1 : Int32)]) (rest := [.int ((0 : Int32) + pl1M d 70 0 0)]) (i := 161) (kd := 9) S hX G (k_X9_isLatched_1_1 l E d e_d) (cwV (bytes := cX9_isLatched) (maxL := 3) (ret := (some .boolean)) 2 S.2.2.2.2 gX9_placeOf_X9_isLatched rfl rfl rfl (by decide +kernel) ⟨Nat.le_of_ble_eq_true rfl, Nat.le_of_ble_eq_true rfl⟩) (rfl : sh 161 = 9) rfl rfl rfl (by decide) rfl hl.1 rfl (Nat.le_of_ble_eq_true rfl) ⟨Nat.zero_le _, Nat.zero_le _⟩ dX9_placeOf_16 (fun v I1 L1 H locs hR G => ?_)
      obtain ⟨hv, hI, hL⟩ := hR
      subst hv
      have G : GS E I L sg H locs := G.same hI hL
      refine W.eq (g2 := F0 mg 19 ls [.int (if ¬ d 85 = -1 then 1 else 0), .int ((0 : Int32) + pl1M d 70 0 0)]) rfl ?_
      refine s_if_eq_b (P := ¬ d 85 = -1) (tgt := 66) S dX9_placeOf_19 (by decide) (fun c_5 => ?_) (fun c_5 => ?_)
      · refine lv_iconst (v := (0 : Int32)) S.1 S.2.1 dX9_placeOf_66 (by decide) ?_
        refine s_iadd (v := (((0 : Int32) + pl1M d 70 0 0) + (0 : Int32))) S dX9_placeOf_67 rfl ?_
        refine lv_istore_n (lv' := [(3, .int (((0 : Int32) + pl1M d 70 0 0) + (0 : Int32))), (4, .int (1 : Int32)), (0, .ref (E.2.2.2 161)), (1, .int (1 : Int32)), (2, .int (0 : Int32))]) S.1 S.2.1 dX9_placeOf_68 rfl hl (by decide) rfl (fun ls hl => ?_)
        refine lv_iinc (v := (2 : Int32)) (lv' := [(4, .int (2 : Int32)), (3, .int (((0 : Int32) + pl1M d 70 0 0) + (0 : Int32))), (0, .ref (E.2.2.2 161)), (1, .int (1 : Int32)), (2, .int (0 : Int32))]) S.1 S.2.1 dX9_placeOf_69 hl (k := 1) rfl (by decide) (by decide) rfl (fun ls hl => ?_)
        refine lv_goto (tgt := 5) S.1 S.2.1 dX9_placeOf_72 (by decide) ?_
        exact kJ_4 (((0 : Int32) + pl1M d 70 0 0) + (0 : Int32)) _ _ _ _ _ ⟨(show (((0 : Int32) + pl1M d 70 0 0) + (0 : Int32)) = ((0 : Int32) + pl1M d 70 0 0) + pl1M d 70 0 1 by first | (simp [pl1M, c_5]; done) | (clear S hX G hl; grind [pl1M])), rfl, rfl⟩ G (lv_sub hl [0, 1, 2, 3, 4] rfl)
      · refine lv_aload_n S.1 S.2.1 dX9_placeOf_22 rfl (lv_at hl 2 rfl) ?_
        refine s_get S hX G (i := 161) (kd := 9) (a := (I 161)) (v := .ref (E.2.2.2 162)) (C := RX9) (T := TX9) (N := 13) 0 (rfl : sh 161 = 9) rfl rfl rfl (by decide) rfl (fun _ h => (List.mem_cons_of_mem _ (List.mem_append_right _ h))) (by decide) (List.mem_of_getElem? (i := 1) rfl) (fun _ h => h) dX9_placeOf_23 ?_
        refine lv_iload_n S.1 S.2.1 dX9_placeOf_26 rfl (lv_at hl 3 rfl) ?_
        refine s_callS (As := [.int (1 : Int32)]) (rest := [.ref (E.2.2.2 162), .int ((0 : Int32) + pl1M d 70 0 0)]) S hX G (k_X9_loadAt_1 l E) (va_cwS (bytes := cX9_loadAt) (maxL := 1) (ret := (some .int)) 1 S.2.2.2.2 gX9_placeOf_X9_loadAt rfl rfl rfl (by decide +kernel) ⟨Nat.le_of_ble_eq_true rfl, Nat.le_of_ble_eq_true rfl⟩) rfl hl.1 rfl (Nat.le_of_ble_eq_true rfl) ⟨Nat.zero_le _, Nat.zero_le _⟩ dX9_placeOf_27 (fun v I1 L1 H locs hR G => ?_)
        obtain ⟨hv, hI, hL⟩ := hR
        subst hv
        have G : GS E I L sg H locs := G.same hI hL
        refine W.eq (g2 := F0 mg 30 ls [.int (70 : Int32), .ref (E.2.2.2 162), .int ((0 : Int32) + pl1M d 70 0 0)]) rfl ?_
        refine lv_bipush (v := (12 : Int32)) S.1 S.2.1 dX9_placeOf_30 (by decide) ?_
        refine s_iadd (v := (82 : Int32)) S dX9_placeOf_32 (by decide) ?_
        refine lv_iconst (v := (3 : Int32)) S.1 S.2.1 dX9_placeOf_33 (by decide) ?_
        refine lv_iload S.1 S.2.1 dX9_placeOf_34 (lv_at hl 0 rfl) ?_
        refine s_imul (v := (3 : Int32)) S dX9_placeOf_36 (by decide) ?_
        refine s_iadd (v := (85 : Int32)) S dX9_placeOf_37 (by decide) ?_
        refine lv_iconst (v := (2 : Int32)) S.1 S.2.1 dX9_placeOf_38 (by decide) ?_
        refine s_iadd (v := (87 : Int32)) S dX9_placeOf_39 (by decide) ?_
        refine s_iald S hX G (i := 162) (kd := 284) (n := 270) (a := d) (x := (d 87)) (rfl : sh 162 = 284) e_d rfl (by decide) (by unfold vp_in; decide) (congrArg d (by decide)) dX9_placeOf_40 ?_
        refine lv_aload_n S.1 S.2.1 dX9_placeOf_41 rfl (lv_at hl 2 rfl) ?_
        refine s_get S hX G (i := 161) (kd := 9) (a := (I 161)) (v := .ref (E.2.2.2 162)) (C := RX9) (T := TX9) (N := 13) 0 (rfl : sh 161 = 9) rfl rfl rfl (by decide) rfl (fun _ h => (List.mem_cons_of_mem _ (List.mem_append_right _ h))) (by decide) (List.mem_of_getElem? (i := 1) rfl) (fun _ h => h) dX9_placeOf_42 ?_
        refine lv_iload_n S.1 S.2.1 dX9_placeOf_45 rfl (lv_at hl 3 rfl) ?_
        refine s_callS (As := [.int (1 : Int32)]) (rest := [.ref (E.2.2.2 162), .int (d 87), .int ((0 : Int32) + pl1M d 70 0 0)]) S hX G (k_X9_loadAt_1 l E) (va_cwS (bytes := cX9_loadAt) (maxL := 1) (ret := (some .int)) 1 S.2.2.2.2 gX9_placeOf_X9_loadAt rfl rfl rfl (by decide +kernel) ⟨Nat.le_of_ble_eq_true rfl, Nat.le_of_ble_eq_true rfl⟩) rfl hl.1 rfl (Nat.le_of_ble_eq_true rfl) ⟨Nat.zero_le _, Nat.zero_le _⟩ dX9_placeOf_46 (fun v I1 L1 H locs hR G => ?_)
        obtain ⟨hv, hI, hL⟩ := hR
        subst hv
        have G : GS E I L sg H locs := G.same hI hL
        refine W.eq (g2 := F0 mg 49 ls [.int (70 : Int32), .ref (E.2.2.2 162), .int (d 87), .int ((0 : Int32) + pl1M d 70 0 0)]) rfl ?_
        refine lv_bipush (v := (12 : Int32)) S.1 S.2.1 dX9_placeOf_49 (by decide) ?_
        refine s_iadd (v := (82 : Int32)) S dX9_placeOf_51 (by decide) ?_
        refine lv_iconst (v := (3 : Int32)) S.1 S.2.1 dX9_placeOf_52 (by decide) ?_
        refine lv_iload_n S.1 S.2.1 dX9_placeOf_53 rfl (lv_at hl 4 rfl) ?_
        refine s_imul (v := (0 : Int32)) S dX9_placeOf_54 (by decide) ?_
        refine s_iadd (v := (82 : Int32)) S dX9_placeOf_55 (by decide) ?_
        refine lv_iconst (v := (2 : Int32)) S.1 S.2.1 dX9_placeOf_56 (by decide) ?_
        refine s_iadd (v := (84 : Int32)) S dX9_placeOf_57 (by decide) ?_
        refine s_iald S hX G (i := 162) (kd := 284) (n := 270) (a := d) (x := (d 84)) (rfl : sh 162 = 284) e_d rfl (by decide) (by unfold vp_in; decide) (congrArg d (by decide)) dX9_placeOf_58 ?_
        refine lv_icmp_ge (tgt := 66) S.1 S.2.1 dX9_placeOf_59 (by decide) (fun c_6 => ?_) (fun c_6 => ?_)
        · refine lv_iconst (v := (0 : Int32)) S.1 S.2.1 dX9_placeOf_66 (by decide) ?_
          refine s_iadd (v := (((0 : Int32) + pl1M d 70 0 0) + (0 : Int32))) S dX9_placeOf_67 rfl ?_
          refine lv_istore_n (lv' := [(3, .int (((0 : Int32) + pl1M d 70 0 0) + (0 : Int32))), (4, .int (1 : Int32)), (0, .ref (E.2.2.2 161)), (1, .int (1 : Int32)), (2, .int (0 : Int32))]) S.1 S.2.1 dX9_placeOf_68 rfl hl (by decide) rfl (fun ls hl => ?_)
          refine lv_iinc (v := (2 : Int32)) (lv' := [(4, .int (2 : Int32)), (3, .int (((0 : Int32) + pl1M d 70 0 0) + (0 : Int32))), (0, .ref (E.2.2.2 161)), (1, .int (1 : Int32)), (2, .int (0 : Int32))]) S.1 S.2.1 dX9_placeOf_69 hl (k := 1) rfl (by decide) (by decide) rfl (fun ls hl => ?_)
          refine lv_goto (tgt := 5) S.1 S.2.1 dX9_placeOf_72 (by decide) ?_
          exact kJ_4 (((0 : Int32) + pl1M d 70 0 0) + (0 : Int32)) _ _ _ _ _ ⟨(show (((0 : Int32) + pl1M d 70 0 0) + (0 : Int32)) = ((0 : Int32) + pl1M d 70 0 0) + pl1M d 70 0 1 by first | (simp [pl1M, c_5, c_6]; done) | (clear S hX G hl; grind [pl1M])), rfl, rfl⟩ G (lv_sub hl [0, 1, 2, 3, 4] rfl)
        · refine lv_iconst (v := (1 : Int32)) S.1 S.2.1 dX9_placeOf_62 (by decide) ?_
          refine lv_goto (tgt := 67) S.1 S.2.1 dX9_placeOf_63 (by decide) ?_
          refine s_iadd (v := (((0 : Int32) + pl1M d 70 0 0) + (1 : Int32))) S dX9_placeOf_67 rfl ?_
          refine lv_istore_n (lv' := [(3, .int (((0 : Int32) + pl1M d 70 0 0) + (1 : Int32))), (4, .int (1 : Int32)), (0, .ref (E.2.2.2 161)), (1, .int (1 : Int32)), (2, .int (0 : Int32))]) S.1 S.2.1 dX9_placeOf_68 rfl hl (by decide) rfl (fun ls hl => ?_)
          refine lv_iinc (v := (2 : Int32)) (lv' := [(4, .int (2 : Int32)), (3, .int (((0 : Int32) + pl1M d 70 0 0) + (1 : Int32))), (0, .ref (E.2.2.2 161)), (1, .int (1 : Int32)), (2, .int (0 : Int32))]) S.1 S.2.1 dX9_placeOf_69 hl (k := 1) rfl (by decide) (by decide) rfl (fun ls hl => ?_)
          refine lv_goto (tgt := 5) S.1 S.2.1 dX9_placeOf_72 (by decide) ?_
          exact kJ_4 (((0 : Int32) + pl1M d 70 0 0) + (1 : Int32)) _ _ _ _ _ ⟨(show (((0 : Int32) + pl1M d 70 0 0) + (1 : Int32)) = ((0 : Int32) + pl1M d 70 0 0) + pl1M d 70 0 1 by first | (simp [pl1M, c_5, c_6]; done) | (clear S hX G hl; grind [pl1M])), rfl, rfl⟩ G (lv_sub hl [0, 1, 2, 3, 4] rfl)
    · obtain ⟨h0, hI, hL⟩ := hP
      have h0 : x = (((0 : Int32) + pl1M d 70 0 0) + pl1M d 70 0 1) := h0
      have hl : lv_has ls 5 [(4, .int (2 : Int32)), (3, .int x), (0, .ref (E.2.2.2 161)), (1, .int (1 : Int32)), (2, .int (0 : Int32))] := hl
      subst h0
      have G : GS E I L sg H locs := G.same hI hL
      refine W.eq (g2 := F0 mg 5 ls []) rfl ?_
      refine s_cut (α := Int32) (nL := 5) (E := E) (fun x I' L' => x = ((((0 : Int32) + pl1M d 70 0 0) + pl1M d 70 0 1) + pl1M d 70 0 2) ∧ I' = I ∧ L' = L) (fun x => [(4, .int (3 : Int32)), (3, .int x), (0, .ref (E.2.2.2 161)), (1, .int (1 : Int32)), (2, .int (0 : Int32))]) 5 (fun x => []) (fun kJ_7 => ?_) (fun x I1 L1 H locs ls hP G hl => ?_)
      · refine lv_iload S.1 S.2.1 dX9_placeOf_5 (lv_at hl 0 rfl) ?_
        refine lv_iconst (v := (3 : Int32)) S.1 S.2.1 dX9_placeOf_7 (by decide) ?_
        refine lv_icmp_ge (tgt := 75) S.1 S.2.1 dX9_placeOf_8 (by decide) (fun h => absurd h (by decide)) (fun _ => ?_)
        refine lv_iload_n S.1 S.2.1 dX9_placeOf_11 rfl (lv_at hl 1 rfl) ?_
        refine lv_aload_n S.1 S.2.1 dX9_placeOf_12 rfl (lv_at hl 2 rfl) ?_
        refine lv_iload_n S.1 S.2.1 dX9_placeOf_13 rfl (lv_at hl 3 rfl) ?_
        refine lv_iload S.1 S.2.1 dX9_placeOf_14 (lv_at hl 0 rfl) ?_
        refine s_callV (C := RX9) (As := [.int (1 : Int32), .int (2 : Int32)]) (rest := [.int (((0 : Int32) + pl1M d 70 0 0) + pl1M d 70 0 1)]) (i := 161) (kd := 9) S hX G (k_X9_isLatched_1_2 l E d e_d) (cwV (bytes := cX9_isLatched) (maxL := 3) (ret := (some .boolean)) 2 S.2.2.2.2 gX9_placeOf_X9_isLatched rfl rfl rfl (by decide +kernel) ⟨Nat.le_of_ble_eq_true rfl, Nat.le_of_ble_eq_true rfl⟩) (rfl : sh 161 = 9) rfl rfl rfl (by decide) rfl hl.1 rfl (Nat.le_of_ble_eq_true rfl) ⟨Nat.zero_le _, Nat.zero_le _⟩ dX9_placeOf_16 (fun v I1 L1 H locs hR G => ?_)
        obtain ⟨hv, hI, hL⟩ := hR
        subst hv
        have G : GS E I L sg H locs := G.same hI hL
        refine W.eq (g2 := F0 mg 19 ls [.int (if ¬ d 88 = -1 then 1 else 0), .int (((0 : Int32) + pl1M d 70 0 0) + pl1M d 70 0 1)]) rfl ?_
        refine s_if_eq_b (P := ¬ d 88 = -1) (tgt := 66) S dX9_placeOf_19 (by decide) (fun c_8 => ?_) (fun c_8 => ?_)
        · refine lv_iconst (v := (0 : Int32)) S.1 S.2.1 dX9_placeOf_66 (by decide) ?_
          refine s_iadd (v := ((((0 : Int32) + pl1M d 70 0 0) + pl1M d 70 0 1) + (0 : Int32))) S dX9_placeOf_67 rfl ?_
          refine lv_istore_n (lv' := [(3, .int ((((0 : Int32) + pl1M d 70 0 0) + pl1M d 70 0 1) + (0 : Int32))), (4, .int (2 : Int32)), (0, .ref (E.2.2.2 161)), (1, .int (1 : Int32)), (2, .int (0 : Int32))]) S.1 S.2.1 dX9_placeOf_68 rfl hl (by decide) rfl (fun ls hl => ?_)
          refine lv_iinc (v := (3 : Int32)) (lv' := [(4, .int (3 : Int32)), (3, .int ((((0 : Int32) + pl1M d 70 0 0) + pl1M d 70 0 1) + (0 : Int32))), (0, .ref (E.2.2.2 161)), (1, .int (1 : Int32)), (2, .int (0 : Int32))]) S.1 S.2.1 dX9_placeOf_69 hl (k := 1) rfl (by decide) (by decide) rfl (fun ls hl => ?_)
          refine lv_goto (tgt := 5) S.1 S.2.1 dX9_placeOf_72 (by decide) ?_
          exact kJ_7 ((((0 : Int32) + pl1M d 70 0 0) + pl1M d 70 0 1) + (0 : Int32)) _ _ _ _ _ ⟨(show ((((0 : Int32) + pl1M d 70 0 0) + pl1M d 70 0 1) + (0 : Int32)) = (((0 : Int32) + pl1M d 70 0 0) + pl1M d 70 0 1) + pl1M d 70 0 2 by first | (simp [pl1M, c_8]; done) | (clear S hX G hl; grind [pl1M])), rfl, rfl⟩ G (lv_sub hl [0, 1, 2, 3, 4] rfl)
        · refine lv_aload_n S.1 S.2.1 dX9_placeOf_22 rfl (lv_at hl 2 rfl) ?_
          refine s_get S hX G (i := 161) (kd := 9) (a := (I 161)) (v := .ref (E.2.2.2 162)) (C := RX9) (T := TX9) (N := 13) 0 (rfl : sh 161 = 9) rfl rfl rfl (by decide) rfl (fun _ h => (List.mem_cons_of_mem _ (List.mem_append_right _ h))) (by decide) (List.mem_of_getElem? (i := 1) rfl) (fun _ h => h) dX9_placeOf_23 ?_
          refine lv_iload_n S.1 S.2.1 dX9_placeOf_26 rfl (lv_at hl 3 rfl) ?_
          refine s_callS (As := [.int (1 : Int32)]) (rest := [.ref (E.2.2.2 162), .int (((0 : Int32) + pl1M d 70 0 0) + pl1M d 70 0 1)]) S hX G (k_X9_loadAt_1 l E) (va_cwS (bytes := cX9_loadAt) (maxL := 1) (ret := (some .int)) 1 S.2.2.2.2 gX9_placeOf_X9_loadAt rfl rfl rfl (by decide +kernel) ⟨Nat.le_of_ble_eq_true rfl, Nat.le_of_ble_eq_true rfl⟩) rfl hl.1 rfl (Nat.le_of_ble_eq_true rfl) ⟨Nat.zero_le _, Nat.zero_le _⟩ dX9_placeOf_27 (fun v I1 L1 H locs hR G => ?_)
          obtain ⟨hv, hI, hL⟩ := hR
          subst hv
          have G : GS E I L sg H locs := G.same hI hL
          refine W.eq (g2 := F0 mg 30 ls [.int (70 : Int32), .ref (E.2.2.2 162), .int (((0 : Int32) + pl1M d 70 0 0) + pl1M d 70 0 1)]) rfl ?_
          refine lv_bipush (v := (12 : Int32)) S.1 S.2.1 dX9_placeOf_30 (by decide) ?_
          refine s_iadd (v := (82 : Int32)) S dX9_placeOf_32 (by decide) ?_
          refine lv_iconst (v := (3 : Int32)) S.1 S.2.1 dX9_placeOf_33 (by decide) ?_
          refine lv_iload S.1 S.2.1 dX9_placeOf_34 (lv_at hl 0 rfl) ?_
          refine s_imul (v := (6 : Int32)) S dX9_placeOf_36 (by decide) ?_
          refine s_iadd (v := (88 : Int32)) S dX9_placeOf_37 (by decide) ?_
          refine lv_iconst (v := (2 : Int32)) S.1 S.2.1 dX9_placeOf_38 (by decide) ?_
          refine s_iadd (v := (90 : Int32)) S dX9_placeOf_39 (by decide) ?_
          refine s_iald S hX G (i := 162) (kd := 284) (n := 270) (a := d) (x := (d 90)) (rfl : sh 162 = 284) e_d rfl (by decide) (by unfold vp_in; decide) (congrArg d (by decide)) dX9_placeOf_40 ?_
          refine lv_aload_n S.1 S.2.1 dX9_placeOf_41 rfl (lv_at hl 2 rfl) ?_
          refine s_get S hX G (i := 161) (kd := 9) (a := (I 161)) (v := .ref (E.2.2.2 162)) (C := RX9) (T := TX9) (N := 13) 0 (rfl : sh 161 = 9) rfl rfl rfl (by decide) rfl (fun _ h => (List.mem_cons_of_mem _ (List.mem_append_right _ h))) (by decide) (List.mem_of_getElem? (i := 1) rfl) (fun _ h => h) dX9_placeOf_42 ?_
          refine lv_iload_n S.1 S.2.1 dX9_placeOf_45 rfl (lv_at hl 3 rfl) ?_
          refine s_callS (As := [.int (1 : Int32)]) (rest := [.ref (E.2.2.2 162), .int (d 90), .int (((0 : Int32) + pl1M d 70 0 0) + pl1M d 70 0 1)]) S hX G (k_X9_loadAt_1 l E) (va_cwS (bytes := cX9_loadAt) (maxL := 1) (ret := (some .int)) 1 S.2.2.2.2 gX9_placeOf_X9_loadAt rfl rfl rfl (by decide +kernel) ⟨Nat.le_of_ble_eq_true rfl, Nat.le_of_ble_eq_true rfl⟩) rfl hl.1 rfl (Nat.le_of_ble_eq_true rfl) ⟨Nat.zero_le _, Nat.zero_le _⟩ dX9_placeOf_46 (fun v I1 L1 H locs hR G => ?_)
          obtain ⟨hv, hI, hL⟩ := hR
          subst hv
          have G : GS E I L sg H locs := G.same hI hL
          refine W.eq (g2 := F0 mg 49 ls [.int (70 : Int32), .ref (E.2.2.2 162), .int (d 90), .int (((0 : Int32) + pl1M d 70 0 0) + pl1M d 70 0 1)]) rfl ?_
          refine lv_bipush (v := (12 : Int32)) S.1 S.2.1 dX9_placeOf_49 (by decide) ?_
          refine s_iadd (v := (82 : Int32)) S dX9_placeOf_51 (by decide) ?_
          refine lv_iconst (v := (3 : Int32)) S.1 S.2.1 dX9_placeOf_52 (by decide) ?_
          refine lv_iload_n S.1 S.2.1 dX9_placeOf_53 rfl (lv_at hl 4 rfl) ?_
          refine s_imul (v := (0 : Int32)) S dX9_placeOf_54 (by decide) ?_
          refine s_iadd (v := (82 : Int32)) S dX9_placeOf_55 (by decide) ?_
          refine lv_iconst (v := (2 : Int32)) S.1 S.2.1 dX9_placeOf_56 (by decide) ?_
          refine s_iadd (v := (84 : Int32)) S dX9_placeOf_57 (by decide) ?_
          refine s_iald S hX G (i := 162) (kd := 284) (n := 270) (a := d) (x := (d 84)) (rfl : sh 162 = 284) e_d rfl (by decide) (by unfold vp_in; decide) (congrArg d (by decide)) dX9_placeOf_58 ?_
          refine lv_icmp_ge (tgt := 66) S.1 S.2.1 dX9_placeOf_59 (by decide) (fun c_9 => ?_) (fun c_9 => ?_)
          · refine lv_iconst (v := (0 : Int32)) S.1 S.2.1 dX9_placeOf_66 (by decide) ?_
            refine s_iadd (v := ((((0 : Int32) + pl1M d 70 0 0) + pl1M d 70 0 1) + (0 : Int32))) S dX9_placeOf_67 rfl ?_
            refine lv_istore_n (lv' := [(3, .int ((((0 : Int32) + pl1M d 70 0 0) + pl1M d 70 0 1) + (0 : Int32))), (4, .int (2 : Int32)), (0, .ref (E.2.2.2 161)), (1, .int (1 : Int32)), (2, .int (0 : Int32))]) S.1 S.2.1 dX9_placeOf_68 rfl hl (by decide) rfl (fun ls hl => ?_)
            refine lv_iinc (v := (3 : Int32)) (lv' := [(4, .int (3 : Int32)), (3, .int ((((0 : Int32) + pl1M d 70 0 0) + pl1M d 70 0 1) + (0 : Int32))), (0, .ref (E.2.2.2 161)), (1, .int (1 : Int32)), (2, .int (0 : Int32))]) S.1 S.2.1 dX9_placeOf_69 hl (k := 1) rfl (by decide) (by decide) rfl (fun ls hl => ?_)
            refine lv_goto (tgt := 5) S.1 S.2.1 dX9_placeOf_72 (by decide) ?_
            exact kJ_7 ((((0 : Int32) + pl1M d 70 0 0) + pl1M d 70 0 1) + (0 : Int32)) _ _ _ _ _ ⟨(show ((((0 : Int32) + pl1M d 70 0 0) + pl1M d 70 0 1) + (0 : Int32)) = (((0 : Int32) + pl1M d 70 0 0) + pl1M d 70 0 1) + pl1M d 70 0 2 by first | (simp [pl1M, c_8, c_9]; done) | (clear S hX G hl; grind [pl1M])), rfl, rfl⟩ G (lv_sub hl [0, 1, 2, 3, 4] rfl)
          · refine lv_iconst (v := (1 : Int32)) S.1 S.2.1 dX9_placeOf_62 (by decide) ?_
            refine lv_goto (tgt := 67) S.1 S.2.1 dX9_placeOf_63 (by decide) ?_
            refine s_iadd (v := ((((0 : Int32) + pl1M d 70 0 0) + pl1M d 70 0 1) + (1 : Int32))) S dX9_placeOf_67 rfl ?_
            refine lv_istore_n (lv' := [(3, .int ((((0 : Int32) + pl1M d 70 0 0) + pl1M d 70 0 1) + (1 : Int32))), (4, .int (2 : Int32)), (0, .ref (E.2.2.2 161)), (1, .int (1 : Int32)), (2, .int (0 : Int32))]) S.1 S.2.1 dX9_placeOf_68 rfl hl (by decide) rfl (fun ls hl => ?_)
            refine lv_iinc (v := (3 : Int32)) (lv' := [(4, .int (3 : Int32)), (3, .int ((((0 : Int32) + pl1M d 70 0 0) + pl1M d 70 0 1) + (1 : Int32))), (0, .ref (E.2.2.2 161)), (1, .int (1 : Int32)), (2, .int (0 : Int32))]) S.1 S.2.1 dX9_placeOf_69 hl (k := 1) rfl (by decide) (by decide) rfl (fun ls hl => ?_)
            refine lv_goto (tgt := 5) S.1 S.2.1 dX9_placeOf_72 (by decide) ?_
            exact kJ_7 ((((0 : Int32) + pl1M d 70 0 0) + pl1M d 70 0 1) + (1 : Int32)) _ _ _ _ _ ⟨(show ((((0 : Int32) + pl1M d 70 0 0) + pl1M d 70 0 1) + (1 : Int32)) = (((0 : Int32) + pl1M d 70 0 0) + pl1M d 70 0 1) + pl1M d 70 0 2 by first | (simp [pl1M, c_8, c_9]; done) | (clear S hX G hl; grind [pl1M])), rfl, rfl⟩ G (lv_sub hl [0, 1, 2, 3, 4] rfl)
      · obtain ⟨h0, hI, hL⟩ := hP
        have h0 : x = ((((0 : Int32) + pl1M d 70 0 0) + pl1M d 70 0 1) + pl1M d 70 0 2) := h0
        have hl : lv_has ls 5 [(4, .int (3 : Int32)), (3, .int x), (0, .ref (E.2.2.2 161)), (1, .int (1 : Int32)), (2, .int (0 : Int32))] := hl
        subst h0
        have G : GS E I L sg H locs := G.same hI hL
        refine W.eq (g2 := F0 mg 5 ls []) rfl ?_
        refine lv_iload S.1 S.2.1 dX9_placeOf_5 (lv_at hl 0 rfl) ?_
        refine lv_iconst (v := (3 : Int32)) S.1 S.2.1 dX9_placeOf_7 (by decide) ?_
        refine lv_icmp_ge (tgt := 75) S.1 S.2.1 dX9_placeOf_8 (by decide) (fun _ => ?_) (fun h => absurd (by decide) h)
        refine lv_iload_n S.1 S.2.1 dX9_placeOf_75 rfl (lv_at hl 1 rfl) ?_
        refine s_iret (x := ((((0 : Int32) + pl1M d 70 0 0) + pl1M d 70 0 1) + pl1M d 70 0 2)) S G hr hlk dX9_placeOf_76 ?_
        exact ⟨(congrArg (fun q : Int32 => some (Value.int q)) (show ((((0 : Int32) + pl1M d 70 0 0) + pl1M d 70 0 1) + pl1M d 70 0 2) = (plcM d 70 0) by rfl)), rfl, rfl⟩
set_option maxHeartbeats 4000000 in
set_option maxRecDepth 100000 in
theorem k_X9_canClear_1_0 (l : Launch) (E : Ev) {I : SI} {L : SL} (d : Nat → Int32) (e_d : I (162) = d) : CS l yX9_canClear wsX9_canClear ({ frames := 3, cells := 0, slots := 0, locals := 66 }) E [.ref (E.2.2.2 161), .int (1 : Int32), .int (0 : Int32)] I L (fun vv I' L' => vv = some (.int (if ¬ d 82 = -1 ∧ ¬ ¬ plcM d 70 0 ≤ 0 ∧ absM (d 74) < d 3 then 1 else 0)) ∧ I' = I ∧ L' = L) := by
  refine CS.of (cc := cX9_canClear) (maxL := 3) (ret := (some .boolean)) (by decide) rfl (Nat.le_of_ble_eq_true rfl) ?_
  intro pg en sg mg below meth cg ls S hr hlk hX G hl
  have S : CallFix pg mg cg cX9_canClear 3 sg _ wsX9_canClear RX9 := S
  have hl : lv_has ls 3 [(0, .ref (E.2.2.2 161)), (1, .int (1 : Int32)), (2, .int (0 : Int32))] := hl
  refine lv_aload_n S.1 S.2.1 dX9_canClear_0 rfl (lv_at hl 0 rfl) ?_
  refine lv_iload_n S.1 S.2.1 dX9_canClear_1 rfl (lv_at hl 1 rfl) ?_
  refine lv_iload_n S.1 S.2.1 dX9_canClear_2 rfl (lv_at hl 2 rfl) ?_
  refine s_callV (C := RX9) (As := [.int (1 : Int32), .int (0 : Int32)]) (rest := []) (i := 161) (kd := 9) S hX G (k_X9_isLatched_1_0 l E d e_d) (cwV (bytes := cX9_isLatched) (maxL := 3) (ret := (some .boolean)) 2 S.2.2.2.2 gX9_canClear_X9_isLatched rfl rfl rfl (by decide +kernel) ⟨Nat.le_of_ble_eq_true rfl, Nat.le_of_ble_eq_true rfl⟩) (rfl : sh 161 = 9) rfl rfl rfl (by decide) rfl hl.1 rfl (Nat.le_of_ble_eq_true rfl) ⟨Nat.zero_le _, Nat.zero_le _⟩ dX9_canClear_3 (fun v I1 L1 H locs hR G => ?_)
  obtain ⟨hv, hI, hL⟩ := hR
  subst hv
  have G : GS E I L sg H locs := G.same hI hL
  refine W.eq (g2 := F0 mg 6 ls [.int (if ¬ d 82 = -1 then 1 else 0)]) rfl ?_
  refine s_if_eq_b (P := ¬ d 82 = -1) (tgt := 18) S dX9_canClear_6 (by decide) (fun c_1 => ?_) (fun c_1 => ?_)
  · refine lv_iconst (v := (0 : Int32)) S.1 S.2.1 dX9_canClear_18 (by decide) ?_
    refine s_zret (x := (0 : Int32)) S G hr hlk dX9_canClear_19 (Or.inl rfl) ?_
    exact ⟨(congrArg (fun q : Int32 => some (Value.int q)) (show (0 : Int32) = (if ¬ d 82 = -1 ∧ ¬ ¬ plcM d 70 0 ≤ 0 ∧ absM (d 74) < d 3 then 1 else 0) by first | (simp [c_1]; done) | (clear S hX G hl; grind))), rfl, rfl⟩
  · refine lv_aload_n S.1 S.2.1 dX9_canClear_9 rfl (lv_at hl 0 rfl) ?_
    refine lv_iload_n S.1 S.2.1 dX9_canClear_10 rfl (lv_at hl 1 rfl) ?_
    refine lv_iload_n S.1 S.2.1 dX9_canClear_11 rfl (lv_at hl 2 rfl) ?_
    refine s_callV (C := RX9) (As := [.int (1 : Int32), .int (0 : Int32)]) (rest := []) (i := 161) (kd := 9) S hX G (k_X9_placeOf_1_0 l E d e_d) (cwV (bytes := cX9_placeOf) (maxL := 5) (ret := (some .int)) 2 S.2.2.2.2 gX9_canClear_X9_placeOf rfl rfl rfl (by decide +kernel) ⟨Nat.le_of_ble_eq_true rfl, Nat.le_of_ble_eq_true rfl⟩) (rfl : sh 161 = 9) rfl rfl rfl (by decide) rfl hl.1 rfl (Nat.le_of_ble_eq_true rfl) ⟨Nat.zero_le _, Nat.zero_le _⟩ dX9_canClear_12 (fun v I1 L1 H locs hR G => ?_)
    obtain ⟨hv, hI, hL⟩ := hR
    subst hv
    have G : GS E I L sg H locs := G.same hI hL
    refine W.eq (g2 := F0 mg 15 ls [.int (plcM d 70 0)]) rfl ?_
    refine lv_topi (fun y_2 ey_2 => ?_)
    refine lv_if_le (tgt := 20) S.1 S.2.1 dX9_canClear_15 (by decide) (fun c_3 => ?_) (fun c_3 => ?_)
    · refine lv_iload_n S.1 S.2.1 dX9_canClear_20 rfl (lv_at hl 2 rfl) ?_
      refine lv_if_ne (tgt := 46) S.1 S.2.1 dX9_canClear_21 (by decide) (fun h => absurd (by decide) h) (fun _ => ?_)
      refine lv_aload_n S.1 S.2.1 dX9_canClear_24 rfl (lv_at hl 0 rfl) ?_
      refine lv_iload_n S.1 S.2.1 dX9_canClear_25 rfl (lv_at hl 1 rfl) ?_
      refine s_callV (C := RX9) (As := [.int (1 : Int32)]) (rest := []) (i := 161) (kd := 9) S hX G (k_X9_sizeOf_1 l E d e_d) (cwV (bytes := cX9_sizeOf) (maxL := 3) (ret := (some .int)) 1 S.2.2.2.2 gX9_canClear_X9_sizeOf rfl rfl rfl (by decide +kernel) ⟨Nat.le_of_ble_eq_true rfl, Nat.le_of_ble_eq_true rfl⟩) (rfl : sh 161 = 9) rfl rfl rfl (by decide) rfl hl.1 rfl (Nat.le_of_ble_eq_true rfl) ⟨Nat.zero_le _, Nat.zero_le _⟩ dX9_canClear_26 (fun v I1 L1 H locs hR G => ?_)
      obtain ⟨hv, hI, hL⟩ := hR
      subst hv
      have G : GS E I L sg H locs := G.same hI hL
      refine W.eq (g2 := F0 mg 29 ls [.int (absM (d 74))]) rfl ?_
      refine lv_topi (fun y_4 ey_4 => ?_)
      refine lv_aload_n S.1 S.2.1 dX9_canClear_29 rfl (lv_at hl 0 rfl) ?_
      refine s_get S hX G (i := 161) (kd := 9) (a := (I 161)) (v := .ref (E.2.2.2 162)) (C := RX9) (T := TX9) (N := 13) 0 (rfl : sh 161 = 9) rfl rfl rfl (by decide) rfl (fun _ h => (List.mem_cons_of_mem _ (List.mem_append_right _ h))) (by decide) (List.mem_of_getElem? (i := 1) rfl) (fun _ h => h) dX9_canClear_30 ?_
      refine lv_iconst (v := (3 : Int32)) S.1 S.2.1 dX9_canClear_33 (by decide) ?_
      refine s_iald S hX G (i := 162) (kd := 284) (n := 270) (a := d) (x := (d 3)) (rfl : sh 162 = 284) e_d rfl (by decide) (by unfold vp_in; decide) (congrArg d (by decide)) dX9_canClear_34 ?_
      refine lv_icmp_ge (tgt := 42) S.1 S.2.1 dX9_canClear_35 (by decide) (fun c_5 => ?_) (fun c_5 => ?_)
      · refine lv_iconst (v := (0 : Int32)) S.1 S.2.1 dX9_canClear_42 (by decide) ?_
        refine lv_goto (tgt := 78) S.1 S.2.1 dX9_canClear_43 (by decide) ?_
        refine s_zret (x := (0 : Int32)) S G hr hlk dX9_canClear_78 (Or.inl rfl) ?_
        exact ⟨(congrArg (fun q : Int32 => some (Value.int q)) (show (0 : Int32) = (if ¬ d 82 = -1 ∧ ¬ ¬ plcM d 70 0 ≤ 0 ∧ absM (d 74) < d 3 then 1 else 0) by subst ey_4 ey_2; (first | (simp [c_1, c_3, c_5]; done) | (clear S hX G hl; grind)))), rfl, rfl⟩
      · refine lv_iconst (v := (1 : Int32)) S.1 S.2.1 dX9_canClear_38 (by decide) ?_
        refine lv_goto (tgt := 78) S.1 S.2.1 dX9_canClear_39 (by decide) ?_
        refine s_zret (x := (1 : Int32)) S G hr hlk dX9_canClear_78 (Or.inr rfl) ?_
        exact ⟨(congrArg (fun q : Int32 => some (Value.int q)) (show (1 : Int32) = (if ¬ d 82 = -1 ∧ ¬ ¬ plcM d 70 0 ≤ 0 ∧ absM (d 74) < d 3 then 1 else 0) by subst ey_4 ey_2; (first | (simp [c_1, c_3, c_5]; done) | (clear S hX G hl; grind)))), rfl, rfl⟩
    · refine lv_iconst (v := (0 : Int32)) S.1 S.2.1 dX9_canClear_18 (by decide) ?_
      refine s_zret (x := (0 : Int32)) S G hr hlk dX9_canClear_19 (Or.inl rfl) ?_
      exact ⟨(congrArg (fun q : Int32 => some (Value.int q)) (show (0 : Int32) = (if ¬ d 82 = -1 ∧ ¬ ¬ plcM d 70 0 ≤ 0 ∧ absM (d 74) < d 3 then 1 else 0) by subst ey_2; (first | (simp [c_1, c_3]; done) | (clear S hX G hl; grind)))), rfl, rfl⟩
set_option maxHeartbeats 4000000 in
set_option maxRecDepth 100000 in
theorem k_X9_placeOf_1_1 (l : Launch) (E : Ev) {I : SI} {L : SL} (d : Nat → Int32) (e_d : I (162) = d) : CS l yX9_placeOf wsX9_placeOf ({ frames := 2, cells := 0, slots := 0, locals := 42 }) E [.ref (E.2.2.2 161), .int (1 : Int32), .int (1 : Int32)] I L (fun vv I' L' => vv = some (.int (plcM d 70 1)) ∧ I' = I ∧ L' = L) := by
  refine CS.of (cc := cX9_placeOf) (maxL := 5) (ret := (some .int)) (by decide) rfl (Nat.le_of_ble_eq_true rfl) ?_
  intro pg en sg mg below meth cg ls S hr hlk hX G hl
  have S : CallFix pg mg cg cX9_placeOf 5 sg _ wsX9_placeOf RX9 := S
  have hl : lv_has ls 5 [(0, .ref (E.2.2.2 161)), (1, .int (1 : Int32)), (2, .int (1 : Int32))] := hl
  refine lv_iconst (v := (0 : Int32)) S.1 S.2.1 dX9_placeOf_0 (by decide) ?_
  refine lv_istore_n (lv' := [(3, .int (0 : Int32)), (0, .ref (E.2.2.2 161)), (1, .int (1 : Int32)), (2, .int (1 : Int32))]) S.1 S.2.1 dX9_placeOf_1 rfl hl (by decide) rfl (fun ls hl => ?_)
  refine lv_iconst (v := (0 : Int32)) S.1 S.2.1 dX9_placeOf_2 (by decide) ?_
  refine lv_istore (lv' := [(4, .int (0 : Int32)), (3, .int (0 : Int32)), (0, .ref (E.2.2.2 161)), (1, .int (1 : Int32)), (2, .int (1 : Int32))]) S.1 S.2.1 dX9_placeOf_3 hl (by decide) rfl (fun ls hl => ?_)
  refine s_cut (α := Int32) (nL := 5) (E := E) (fun x I' L' => x = ((0 : Int32) + pl1M d 70 1 0) ∧ I' = I ∧ L' = L) (fun x => [(4, .int (1 : Int32)), (3, .int x), (0, .ref (E.2.2.2 161)), (1, .int (1 : Int32)), (2, .int (1 : Int32))]) 5 (fun x => []) (fun kJ_1 => ?_) (fun x I1 L1 H locs ls hP G hl => ?_)
  · refine lv_iload S.1 S.2.1 dX9_placeOf_5 (lv_at hl 0 rfl) ?_
    refine lv_iconst (v := (3 : Int32)) S.1 S.2.1 dX9_placeOf_7 (by decide) ?_
    refine lv_icmp_ge (tgt := 75) S.1 S.2.1 dX9_placeOf_8 (by decide) (fun h => absurd h (by decide)) (fun _ => ?_)
    refine lv_iload_n S.1 S.2.1 dX9_placeOf_11 rfl (lv_at hl 1 rfl) ?_
    refine lv_aload_n S.1 S.2.1 dX9_placeOf_12 rfl (lv_at hl 2 rfl) ?_
    refine lv_iload_n S.1 S.2.1 dX9_placeOf_13 rfl (lv_at hl 3 rfl) ?_
    refine lv_iload S.1 S.2.1 dX9_placeOf_14 (lv_at hl 0 rfl) ?_
    refine s_callV (C := RX9) (As := [.int (1 : Int32), .int (0 : Int32)]) (rest := [.int (0 : Int32)]) (i := 161) (kd := 9) S hX G (k_X9_isLatched_1_0 l E d e_d) (cwV (bytes := cX9_isLatched) (maxL := 3) (ret := (some .boolean)) 2 S.2.2.2.2 gX9_placeOf_X9_isLatched rfl rfl rfl (by decide +kernel) ⟨Nat.le_of_ble_eq_true rfl, Nat.le_of_ble_eq_true rfl⟩) (rfl : sh 161 = 9) rfl rfl rfl (by decide) rfl hl.1 rfl (Nat.le_of_ble_eq_true rfl) ⟨Nat.zero_le _, Nat.zero_le _⟩ dX9_placeOf_16 (fun v I1 L1 H locs hR G => ?_)
    obtain ⟨hv, hI, hL⟩ := hR
    subst hv
    have G : GS E I L sg H locs := G.same hI hL
    refine W.eq (g2 := F0 mg 19 ls [.int (if ¬ d 82 = -1 then 1 else 0), .int (0 : Int32)]) rfl ?_
    refine s_if_eq_b (P := ¬ d 82 = -1) (tgt := 66) S dX9_placeOf_19 (by decide) (fun c_2 => ?_) (fun c_2 => ?_)
    · refine lv_iconst (v := (0 : Int32)) S.1 S.2.1 dX9_placeOf_66 (by decide) ?_
      refine s_iadd (v := (0 : Int32)) S dX9_placeOf_67 (by decide) ?_
      refine lv_istore_n (lv' := [(3, .int (0 : Int32)), (4, .int (0 : Int32)), (0, .ref (E.2.2.2 161)), (1, .int (1 : Int32)), (2, .int (1 : Int32))]) S.1 S.2.1 dX9_placeOf_68 rfl hl (by decide) rfl (fun ls hl => ?_)
      refine lv_iinc (v := (1 : Int32)) (lv' := [(4, .int (1 : Int32)), (3, .int (0 : Int32)), (0, .ref (E.2.2.2 161)), (1, .int (1 : Int32)), (2, .int (1 : Int32))]) S.1 S.2.1 dX9_placeOf_69 hl (k := 1) rfl (by decide) (by decide) rfl (fun ls hl => ?_)
      refine lv_goto (tgt := 5) S.1 S.2.1 dX9_placeOf_72 (by decide) ?_
      exact kJ_1 (0 : Int32) _ _ _ _ _ ⟨(show (0 : Int32) = (0 : Int32) + pl1M d 70 1 0 by first | (simp [pl1M, c_2]; done) | (clear S hX G hl; grind [pl1M])), rfl, rfl⟩ G (lv_sub hl [0, 1, 2, 3, 4] rfl)
    · refine lv_aload_n S.1 S.2.1 dX9_placeOf_22 rfl (lv_at hl 2 rfl) ?_
      refine s_get S hX G (i := 161) (kd := 9) (a := (I 161)) (v := .ref (E.2.2.2 162)) (C := RX9) (T := TX9) (N := 13) 0 (rfl : sh 161 = 9) rfl rfl rfl (by decide) rfl (fun _ h => (List.mem_cons_of_mem _ (List.mem_append_right _ h))) (by decide) (List.mem_of_getElem? (i := 1) rfl) (fun _ h => h) dX9_placeOf_23 ?_
      refine lv_iload_n S.1 S.2.1 dX9_placeOf_26 rfl (lv_at hl 3 rfl) ?_
      refine s_callS (As := [.int (1 : Int32)]) (rest := [.ref (E.2.2.2 162), .int (0 : Int32)]) S hX G (k_X9_loadAt_1 l E) (va_cwS (bytes := cX9_loadAt) (maxL := 1) (ret := (some .int)) 1 S.2.2.2.2 gX9_placeOf_X9_loadAt rfl rfl rfl (by decide +kernel) ⟨Nat.le_of_ble_eq_true rfl, Nat.le_of_ble_eq_true rfl⟩) rfl hl.1 rfl (Nat.le_of_ble_eq_true rfl) ⟨Nat.zero_le _, Nat.zero_le _⟩ dX9_placeOf_27 (fun v I1 L1 H locs hR G => ?_)
      obtain ⟨hv, hI, hL⟩ := hR
      subst hv
      have G : GS E I L sg H locs := G.same hI hL
      refine W.eq (g2 := F0 mg 30 ls [.int (70 : Int32), .ref (E.2.2.2 162), .int (0 : Int32)]) rfl ?_
      refine lv_bipush (v := (12 : Int32)) S.1 S.2.1 dX9_placeOf_30 (by decide) ?_
      refine s_iadd (v := (82 : Int32)) S dX9_placeOf_32 (by decide) ?_
      refine lv_iconst (v := (3 : Int32)) S.1 S.2.1 dX9_placeOf_33 (by decide) ?_
      refine lv_iload S.1 S.2.1 dX9_placeOf_34 (lv_at hl 0 rfl) ?_
      refine s_imul (v := (0 : Int32)) S dX9_placeOf_36 (by decide) ?_
      refine s_iadd (v := (82 : Int32)) S dX9_placeOf_37 (by decide) ?_
      refine lv_iconst (v := (2 : Int32)) S.1 S.2.1 dX9_placeOf_38 (by decide) ?_
      refine s_iadd (v := (84 : Int32)) S dX9_placeOf_39 (by decide) ?_
      refine s_iald S hX G (i := 162) (kd := 284) (n := 270) (a := d) (x := (d 84)) (rfl : sh 162 = 284) e_d rfl (by decide) (by unfold vp_in; decide) (congrArg d (by decide)) dX9_placeOf_40 ?_
      refine lv_aload_n S.1 S.2.1 dX9_placeOf_41 rfl (lv_at hl 2 rfl) ?_
      refine s_get S hX G (i := 161) (kd := 9) (a := (I 161)) (v := .ref (E.2.2.2 162)) (C := RX9) (T := TX9) (N := 13) 0 (rfl : sh 161 = 9) rfl rfl rfl (by decide) rfl (fun _ h => (List.mem_cons_of_mem _ (List.mem_append_right _ h))) (by decide) (List.mem_of_getElem? (i := 1) rfl) (fun _ h => h) dX9_placeOf_42 ?_
      refine lv_iload_n S.1 S.2.1 dX9_placeOf_45 rfl (lv_at hl 3 rfl) ?_
      refine s_callS (As := [.int (1 : Int32)]) (rest := [.ref (E.2.2.2 162), .int (d 84), .int (0 : Int32)]) S hX G (k_X9_loadAt_1 l E) (va_cwS (bytes := cX9_loadAt) (maxL := 1) (ret := (some .int)) 1 S.2.2.2.2 gX9_placeOf_X9_loadAt rfl rfl rfl (by decide +kernel) ⟨Nat.le_of_ble_eq_true rfl, Nat.le_of_ble_eq_true rfl⟩) rfl hl.1 rfl (Nat.le_of_ble_eq_true rfl) ⟨Nat.zero_le _, Nat.zero_le _⟩ dX9_placeOf_46 (fun v I1 L1 H locs hR G => ?_)
      obtain ⟨hv, hI, hL⟩ := hR
      subst hv
      have G : GS E I L sg H locs := G.same hI hL
      refine W.eq (g2 := F0 mg 49 ls [.int (70 : Int32), .ref (E.2.2.2 162), .int (d 84), .int (0 : Int32)]) rfl ?_
      refine lv_bipush (v := (12 : Int32)) S.1 S.2.1 dX9_placeOf_49 (by decide) ?_
      refine s_iadd (v := (82 : Int32)) S dX9_placeOf_51 (by decide) ?_
      refine lv_iconst (v := (3 : Int32)) S.1 S.2.1 dX9_placeOf_52 (by decide) ?_
      refine lv_iload_n S.1 S.2.1 dX9_placeOf_53 rfl (lv_at hl 4 rfl) ?_
      refine s_imul (v := (3 : Int32)) S dX9_placeOf_54 (by decide) ?_
      refine s_iadd (v := (85 : Int32)) S dX9_placeOf_55 (by decide) ?_
      refine lv_iconst (v := (2 : Int32)) S.1 S.2.1 dX9_placeOf_56 (by decide) ?_
      refine s_iadd (v := (87 : Int32)) S dX9_placeOf_57 (by decide) ?_
      refine s_iald S hX G (i := 162) (kd := 284) (n := 270) (a := d) (x := (d 87)) (rfl : sh 162 = 284) e_d rfl (by decide) (by unfold vp_in; decide) (congrArg d (by decide)) dX9_placeOf_58 ?_
      refine lv_icmp_ge (tgt := 66) S.1 S.2.1 dX9_placeOf_59 (by decide) (fun c_3 => ?_) (fun c_3 => ?_)
      · refine lv_iconst (v := (0 : Int32)) S.1 S.2.1 dX9_placeOf_66 (by decide) ?_
        refine s_iadd (v := (0 : Int32)) S dX9_placeOf_67 (by decide) ?_
        refine lv_istore_n (lv' := [(3, .int (0 : Int32)), (4, .int (0 : Int32)), (0, .ref (E.2.2.2 161)), (1, .int (1 : Int32)), (2, .int (1 : Int32))]) S.1 S.2.1 dX9_placeOf_68 rfl hl (by decide) rfl (fun ls hl => ?_)
        refine lv_iinc (v := (1 : Int32)) (lv' := [(4, .int (1 : Int32)), (3, .int (0 : Int32)), (0, .ref (E.2.2.2 161)), (1, .int (1 : Int32)), (2, .int (1 : Int32))]) S.1 S.2.1 dX9_placeOf_69 hl (k := 1) rfl (by decide) (by decide) rfl (fun ls hl => ?_)
        refine lv_goto (tgt := 5) S.1 S.2.1 dX9_placeOf_72 (by decide) ?_
        exact kJ_1 (0 : Int32) _ _ _ _ _ ⟨(show (0 : Int32) = (0 : Int32) + pl1M d 70 1 0 by first | (simp [pl1M, c_2, c_3]; done) | (clear S hX G hl; grind [pl1M])), rfl, rfl⟩ G (lv_sub hl [0, 1, 2, 3, 4] rfl)
      · refine lv_iconst (v := (1 : Int32)) S.1 S.2.1 dX9_placeOf_62 (by decide) ?_
        refine lv_goto (tgt := 67) S.1 S.2.1 dX9_placeOf_63 (by decide) ?_
        refine s_iadd (v := (1 : Int32)) S dX9_placeOf_67 (by decide) ?_
        refine lv_istore_n (lv' := [(3, .int (1 : Int32)), (4, .int (0 : Int32)), (0, .ref (E.2.2.2 161)), (1, .int (1 : Int32)), (2, .int (1 : Int32))]) S.1 S.2.1 dX9_placeOf_68 rfl hl (by decide) rfl (fun ls hl => ?_)
        refine lv_iinc (v := (1 : Int32)) (lv' := [(4, .int (1 : Int32)), (3, .int (1 : Int32)), (0, .ref (E.2.2.2 161)), (1, .int (1 : Int32)), (2, .int (1 : Int32))]) S.1 S.2.1 dX9_placeOf_69 hl (k := 1) rfl (by decide) (by decide) rfl (fun ls hl => ?_)
        refine lv_goto (tgt := 5) S.1 S.2.1 dX9_placeOf_72 (by decide) ?_
        exact kJ_1 (1 : Int32) _ _ _ _ _ ⟨(show (1 : Int32) = (0 : Int32) + pl1M d 70 1 0 by first | (simp [pl1M, c_2, c_3]; done) | (clear S hX G hl; grind [pl1M])), rfl, rfl⟩ G (lv_sub hl [0, 1, 2, 3, 4] rfl)
  · obtain ⟨h0, hI, hL⟩ := hP
    have h0 : x = ((0 : Int32) + pl1M d 70 1 0) := h0
    have hl : lv_has ls 5 [(4, .int (1 : Int32)), (3, .int x), (0, .ref (E.2.2.2 161)), (1, .int (1 : Int32)), (2, .int (1 : Int32))] := hl
    subst h0
    have G : GS E I L sg H locs := G.same hI hL
    refine W.eq (g2 := F0 mg 5 ls []) rfl ?_
    refine s_cut (α := Int32) (nL := 5) (E := E) (fun x I' L' => x = (((0 : Int32) + pl1M d 70 1 0) + pl1M d 70 1 1) ∧ I' = I ∧ L' = L) (fun x => [(4, .int (2 : Int32)), (3, .int x), (0, .ref (E.2.2.2 161)), (1, .int (1 : Int32)), (2, .int (1 : Int32))]) 5 (fun x => []) (fun kJ_4 => ?_) (fun x I1 L1 H locs ls hP G hl => ?_)
    · refine lv_iload S.1 S.2.1 dX9_placeOf_5 (lv_at hl 0 rfl) ?_
      refine lv_iconst (v := (3 : Int32)) S.1 S.2.1 dX9_placeOf_7 (by decide) ?_
      refine lv_icmp_ge (tgt := 75) S.1 S.2.1 dX9_placeOf_8 (by decide) (fun h => absurd h (by decide)) (fun _ => ?_)
      refine lv_iload_n S.1 S.2.1 dX9_placeOf_11 rfl (lv_at hl 1 rfl) ?_
      refine lv_aload_n S.1 S.2.1 dX9_placeOf_12 rfl (lv_at hl 2 rfl) ?_
      refine lv_iload_n S.1 S.2.1 dX9_placeOf_13 rfl (lv_at hl 3 rfl) ?_
      refine lv_iload S.1 S.2.1 dX9_placeOf_14 (lv_at hl 0 rfl) ?_
      refine s_callV (C := RX9) (As := [.int (1 : Int32), .int (1 : Int32)]) (rest := [.int ((0 : Int32) + pl1M d 70 1 0)]) (i := 161) (kd := 9) S hX G (k_X9_isLatched_1_1 l E d e_d) (cwV (bytes := cX9_isLatched) (maxL := 3) (ret := (some .boolean)) 2 S.2.2.2.2 gX9_placeOf_X9_isLatched rfl rfl rfl (by decide +kernel) ⟨Nat.le_of_ble_eq_true rfl, Nat.le_of_ble_eq_true rfl⟩) (rfl : sh 161 = 9) rfl rfl rfl (by decide) rfl hl.1 rfl (Nat.le_of_ble_eq_true rfl) ⟨Nat.zero_le _, Nat.zero_le _⟩ dX9_placeOf_16 (fun v I1 L1 H locs hR G => ?_)
      obtain ⟨hv, hI, hL⟩ := hR
      subst hv
      have G : GS E I L sg H locs := G.same hI hL
      refine W.eq (g2 := F0 mg 19 ls [.int (if ¬ d 85 = -1 then 1 else 0), .int ((0 : Int32) + pl1M d 70 1 0)]) rfl ?_
      refine s_if_eq_b (P := ¬ d 85 = -1) (tgt := 66) S dX9_placeOf_19 (by decide) (fun c_5 => ?_) (fun c_5 => ?_)
      · refine lv_iconst (v := (0 : Int32)) S.1 S.2.1 dX9_placeOf_66 (by decide) ?_
        refine s_iadd (v := (((0 : Int32) + pl1M d 70 1 0) + (0 : Int32))) S dX9_placeOf_67 rfl ?_
        refine lv_istore_n (lv' := [(3, .int (((0 : Int32) + pl1M d 70 1 0) + (0 : Int32))), (4, .int (1 : Int32)), (0, .ref (E.2.2.2 161)), (1, .int (1 : Int32)), (2, .int (1 : Int32))]) S.1 S.2.1 dX9_placeOf_68 rfl hl (by decide) rfl (fun ls hl => ?_)
        refine lv_iinc (v := (2 : Int32)) (lv' := [(4, .int (2 : Int32)), (3, .int (((0 : Int32) + pl1M d 70 1 0) + (0 : Int32))), (0, .ref (E.2.2.2 161)), (1, .int (1 : Int32)), (2, .int (1 : Int32))]) S.1 S.2.1 dX9_placeOf_69 hl (k := 1) rfl (by decide) (by decide) rfl (fun ls hl => ?_)
        refine lv_goto (tgt := 5) S.1 S.2.1 dX9_placeOf_72 (by decide) ?_
        exact kJ_4 (((0 : Int32) + pl1M d 70 1 0) + (0 : Int32)) _ _ _ _ _ ⟨(show (((0 : Int32) + pl1M d 70 1 0) + (0 : Int32)) = ((0 : Int32) + pl1M d 70 1 0) + pl1M d 70 1 1 by first | (simp [pl1M, c_5]; done) | (clear S hX G hl; grind [pl1M])), rfl, rfl⟩ G (lv_sub hl [0, 1, 2, 3, 4] rfl)
      · refine lv_aload_n S.1 S.2.1 dX9_placeOf_22 rfl (lv_at hl 2 rfl) ?_
        refine s_get S hX G (i := 161) (kd := 9) (a := (I 161)) (v := .ref (E.2.2.2 162)) (C := RX9) (T := TX9) (N := 13) 0 (rfl : sh 161 = 9) rfl rfl rfl (by decide) rfl (fun _ h => (List.mem_cons_of_mem _ (List.mem_append_right _ h))) (by decide) (List.mem_of_getElem? (i := 1) rfl) (fun _ h => h) dX9_placeOf_23 ?_
        refine lv_iload_n S.1 S.2.1 dX9_placeOf_26 rfl (lv_at hl 3 rfl) ?_
        refine s_callS (As := [.int (1 : Int32)]) (rest := [.ref (E.2.2.2 162), .int ((0 : Int32) + pl1M d 70 1 0)]) S hX G (k_X9_loadAt_1 l E) (va_cwS (bytes := cX9_loadAt) (maxL := 1) (ret := (some .int)) 1 S.2.2.2.2 gX9_placeOf_X9_loadAt rfl rfl rfl (by decide +kernel) ⟨Nat.le_of_ble_eq_true rfl, Nat.le_of_ble_eq_true rfl⟩) rfl hl.1 rfl (Nat.le_of_ble_eq_true rfl) ⟨Nat.zero_le _, Nat.zero_le _⟩ dX9_placeOf_27 (fun v I1 L1 H locs hR G => ?_)
        obtain ⟨hv, hI, hL⟩ := hR
        subst hv
        have G : GS E I L sg H locs := G.same hI hL
        refine W.eq (g2 := F0 mg 30 ls [.int (70 : Int32), .ref (E.2.2.2 162), .int ((0 : Int32) + pl1M d 70 1 0)]) rfl ?_
        refine lv_bipush (v := (12 : Int32)) S.1 S.2.1 dX9_placeOf_30 (by decide) ?_
        refine s_iadd (v := (82 : Int32)) S dX9_placeOf_32 (by decide) ?_
        refine lv_iconst (v := (3 : Int32)) S.1 S.2.1 dX9_placeOf_33 (by decide) ?_
        refine lv_iload S.1 S.2.1 dX9_placeOf_34 (lv_at hl 0 rfl) ?_
        refine s_imul (v := (3 : Int32)) S dX9_placeOf_36 (by decide) ?_
        refine s_iadd (v := (85 : Int32)) S dX9_placeOf_37 (by decide) ?_
        refine lv_iconst (v := (2 : Int32)) S.1 S.2.1 dX9_placeOf_38 (by decide) ?_
        refine s_iadd (v := (87 : Int32)) S dX9_placeOf_39 (by decide) ?_
        refine s_iald S hX G (i := 162) (kd := 284) (n := 270) (a := d) (x := (d 87)) (rfl : sh 162 = 284) e_d rfl (by decide) (by unfold vp_in; decide) (congrArg d (by decide)) dX9_placeOf_40 ?_
        refine lv_aload_n S.1 S.2.1 dX9_placeOf_41 rfl (lv_at hl 2 rfl) ?_
        refine s_get S hX G (i := 161) (kd := 9) (a := (I 161)) (v := .ref (E.2.2.2 162)) (C := RX9) (T := TX9) (N := 13) 0 (rfl : sh 161 = 9) rfl rfl rfl (by decide) rfl (fun _ h => (List.mem_cons_of_mem _ (List.mem_append_right _ h))) (by decide) (List.mem_of_getElem? (i := 1) rfl) (fun _ h => h) dX9_placeOf_42 ?_
        refine lv_iload_n S.1 S.2.1 dX9_placeOf_45 rfl (lv_at hl 3 rfl) ?_
        refine s_callS (As := [.int (1 : Int32)]) (rest := [.ref (E.2.2.2 162), .int (d 87), .int ((0 : Int32) + pl1M d 70 1 0)]) S hX G (k_X9_loadAt_1 l E) (va_cwS (bytes := cX9_loadAt) (maxL := 1) (ret := (some .int)) 1 S.2.2.2.2 gX9_placeOf_X9_loadAt rfl rfl rfl (by decide +kernel) ⟨Nat.le_of_ble_eq_true rfl, Nat.le_of_ble_eq_true rfl⟩) rfl hl.1 rfl (Nat.le_of_ble_eq_true rfl) ⟨Nat.zero_le _, Nat.zero_le _⟩ dX9_placeOf_46 (fun v I1 L1 H locs hR G => ?_)
        obtain ⟨hv, hI, hL⟩ := hR
        subst hv
        have G : GS E I L sg H locs := G.same hI hL
        refine W.eq (g2 := F0 mg 49 ls [.int (70 : Int32), .ref (E.2.2.2 162), .int (d 87), .int ((0 : Int32) + pl1M d 70 1 0)]) rfl ?_
        refine lv_bipush (v := (12 : Int32)) S.1 S.2.1 dX9_placeOf_49 (by decide) ?_
        refine s_iadd (v := (82 : Int32)) S dX9_placeOf_51 (by decide) ?_
        refine lv_iconst (v := (3 : Int32)) S.1 S.2.1 dX9_placeOf_52 (by decide) ?_
        refine lv_iload_n S.1 S.2.1 dX9_placeOf_53 rfl (lv_at hl 4 rfl) ?_
        refine s_imul (v := (3 : Int32)) S dX9_placeOf_54 (by decide) ?_
        refine s_iadd (v := (85 : Int32)) S dX9_placeOf_55 (by decide) ?_
        refine lv_iconst (v := (2 : Int32)) S.1 S.2.1 dX9_placeOf_56 (by decide) ?_
        refine s_iadd (v := (87 : Int32)) S dX9_placeOf_57 (by decide) ?_
        refine s_iald S hX G (i := 162) (kd := 284) (n := 270) (a := d) (x := (d 87)) (rfl : sh 162 = 284) e_d rfl (by decide) (by unfold vp_in; decide) (congrArg d (by decide)) dX9_placeOf_58 ?_
        refine lv_icmp_ge (tgt := 66) S.1 S.2.1 dX9_placeOf_59 (by decide) (fun c_6 => ?_) (fun c_6 => ?_)
        · refine lv_iconst (v := (0 : Int32)) S.1 S.2.1 dX9_placeOf_66 (by decide) ?_
          refine s_iadd (v := (((0 : Int32) + pl1M d 70 1 0) + (0 : Int32))) S dX9_placeOf_67 rfl ?_
          refine lv_istore_n (lv' := [(3, .int (((0 : Int32) + pl1M d 70 1 0) + (0 : Int32))), (4, .int (1 : Int32)), (0, .ref (E.2.2.2 161)), (1, .int (1 : Int32)), (2, .int (1 : Int32))]) S.1 S.2.1 dX9_placeOf_68 rfl hl (by decide) rfl (fun ls hl => ?_)
          refine lv_iinc (v := (2 : Int32)) (lv' := [(4, .int (2 : Int32)), (3, .int (((0 : Int32) + pl1M d 70 1 0) + (0 : Int32))), (0, .ref (E.2.2.2 161)), (1, .int (1 : Int32)), (2, .int (1 : Int32))]) S.1 S.2.1 dX9_placeOf_69 hl (k := 1) rfl (by decide) (by decide) rfl (fun ls hl => ?_)
          refine lv_goto (tgt := 5) S.1 S.2.1 dX9_placeOf_72 (by decide) ?_
          exact kJ_4 (((0 : Int32) + pl1M d 70 1 0) + (0 : Int32)) _ _ _ _ _ ⟨(show (((0 : Int32) + pl1M d 70 1 0) + (0 : Int32)) = ((0 : Int32) + pl1M d 70 1 0) + pl1M d 70 1 1 by first | (simp [pl1M, c_5, c_6]; done) | (clear S hX G hl; grind [pl1M])), rfl, rfl⟩ G (lv_sub hl [0, 1, 2, 3, 4] rfl)
        · refine lv_iconst (v := (1 : Int32)) S.1 S.2.1 dX9_placeOf_62 (by decide) ?_
          refine lv_goto (tgt := 67) S.1 S.2.1 dX9_placeOf_63 (by decide) ?_
          refine s_iadd (v := (((0 : Int32) + pl1M d 70 1 0) + (1 : Int32))) S dX9_placeOf_67 rfl ?_
          refine lv_istore_n (lv' := [(3, .int (((0 : Int32) + pl1M d 70 1 0) + (1 : Int32))), (4, .int (1 : Int32)), (0, .ref (E.2.2.2 161)), (1, .int (1 : Int32)), (2, .int (1 : Int32))]) S.1 S.2.1 dX9_placeOf_68 rfl hl (by decide) rfl (fun ls hl => ?_)
          refine lv_iinc (v := (2 : Int32)) (lv' := [(4, .int (2 : Int32)), (3, .int (((0 : Int32) + pl1M d 70 1 0) + (1 : Int32))), (0, .ref (E.2.2.2 161)), (1, .int (1 : Int32)), (2, .int (1 : Int32))]) S.1 S.2.1 dX9_placeOf_69 hl (k := 1) rfl (by decide) (by decide) rfl (fun ls hl => ?_)
          refine lv_goto (tgt := 5) S.1 S.2.1 dX9_placeOf_72 (by decide) ?_
          exact kJ_4 (((0 : Int32) + pl1M d 70 1 0) + (1 : Int32)) _ _ _ _ _ ⟨(show (((0 : Int32) + pl1M d 70 1 0) + (1 : Int32)) = ((0 : Int32) + pl1M d 70 1 0) + pl1M d 70 1 1 by first | (simp [pl1M, c_5, c_6]; done) | (clear S hX G hl; grind [pl1M])), rfl, rfl⟩ G (lv_sub hl [0, 1, 2, 3, 4] rfl)
    · obtain ⟨h0, hI, hL⟩ := hP
      have h0 : x = (((0 : Int32) + pl1M d 70 1 0) + pl1M d 70 1 1) := h0
      have hl : lv_has ls 5 [(4, .int (2 : Int32)), (3, .int x), (0, .ref (E.2.2.2 161)), (1, .int (1 : Int32)), (2, .int (1 : Int32))] := hl
      subst h0
      have G : GS E I L sg H locs := G.same hI hL
      refine W.eq (g2 := F0 mg 5 ls []) rfl ?_
      refine s_cut (α := Int32) (nL := 5) (E := E) (fun x I' L' => x = ((((0 : Int32) + pl1M d 70 1 0) + pl1M d 70 1 1) + pl1M d 70 1 2) ∧ I' = I ∧ L' = L) (fun x => [(4, .int (3 : Int32)), (3, .int x), (0, .ref (E.2.2.2 161)), (1, .int (1 : Int32)), (2, .int (1 : Int32))]) 5 (fun x => []) (fun kJ_7 => ?_) (fun x I1 L1 H locs ls hP G hl => ?_)
      · refine lv_iload S.1 S.2.1 dX9_placeOf_5 (lv_at hl 0 rfl) ?_
        refine lv_iconst (v := (3 : Int32)) S.1 S.2.1 dX9_placeOf_7 (by decide) ?_
        refine lv_icmp_ge (tgt := 75) S.1 S.2.1 dX9_placeOf_8 (by decide) (fun h => absurd h (by decide)) (fun _ => ?_)
        refine lv_iload_n S.1 S.2.1 dX9_placeOf_11 rfl (lv_at hl 1 rfl) ?_
        refine lv_aload_n S.1 S.2.1 dX9_placeOf_12 rfl (lv_at hl 2 rfl) ?_
        refine lv_iload_n S.1 S.2.1 dX9_placeOf_13 rfl (lv_at hl 3 rfl) ?_
        refine lv_iload S.1 S.2.1 dX9_placeOf_14 (lv_at hl 0 rfl) ?_
        refine s_callV (C := RX9) (As := [.int (1 : Int32), .int (2 : Int32)]) (rest := [.int (((0 : Int32) + pl1M d 70 1 0) + pl1M d 70 1 1)]) (i := 161) (kd := 9) S hX G (k_X9_isLatched_1_2 l E d e_d) (cwV (bytes := cX9_isLatched) (maxL := 3) (ret := (some .boolean)) 2 S.2.2.2.2 gX9_placeOf_X9_isLatched rfl rfl rfl (by decide +kernel) ⟨Nat.le_of_ble_eq_true rfl, Nat.le_of_ble_eq_true rfl⟩) (rfl : sh 161 = 9) rfl rfl rfl (by decide) rfl hl.1 rfl (Nat.le_of_ble_eq_true rfl) ⟨Nat.zero_le _, Nat.zero_le _⟩ dX9_placeOf_16 (fun v I1 L1 H locs hR G => ?_)
        obtain ⟨hv, hI, hL⟩ := hR
        subst hv
        have G : GS E I L sg H locs := G.same hI hL
        refine W.eq (g2 := F0 mg 19 ls [.int (if ¬ d 88 = -1 then 1 else 0), .int (((0 : Int32) + pl1M d 70 1 0) + pl1M d 70 1 1)]) rfl ?_
        refine s_if_eq_b (P := ¬ d 88 = -1) (tgt := 66) S dX9_placeOf_19 (by decide) (fun c_8 => ?_) (fun c_8 => ?_)
        · refine lv_iconst (v := (0 : Int32)) S.1 S.2.1 dX9_placeOf_66 (by decide) ?_
          refine s_iadd (v := ((((0 : Int32) + pl1M d 70 1 0) + pl1M d 70 1 1) + (0 : Int32))) S dX9_placeOf_67 rfl ?_
          refine lv_istore_n (lv' := [(3, .int ((((0 : Int32) + pl1M d 70 1 0) + pl1M d 70 1 1) + (0 : Int32))), (4, .int (2 : Int32)), (0, .ref (E.2.2.2 161)), (1, .int (1 : Int32)), (2, .int (1 : Int32))]) S.1 S.2.1 dX9_placeOf_68 rfl hl (by decide) rfl (fun ls hl => ?_)
          refine lv_iinc (v := (3 : Int32)) (lv' := [(4, .int (3 : Int32)), (3, .int ((((0 : Int32) + pl1M d 70 1 0) + pl1M d 70 1 1) + (0 : Int32))), (0, .ref (E.2.2.2 161)), (1, .int (1 : Int32)), (2, .int (1 : Int32))]) S.1 S.2.1 dX9_placeOf_69 hl (k := 1) rfl (by decide) (by decide) rfl (fun ls hl => ?_)
          refine lv_goto (tgt := 5) S.1 S.2.1 dX9_placeOf_72 (by decide) ?_
          exact kJ_7 ((((0 : Int32) + pl1M d 70 1 0) + pl1M d 70 1 1) + (0 : Int32)) _ _ _ _ _ ⟨(show ((((0 : Int32) + pl1M d 70 1 0) + pl1M d 70 1 1) + (0 : Int32)) = (((0 : Int32) + pl1M d 70 1 0) + pl1M d 70 1 1) + pl1M d 70 1 2 by first | (simp [pl1M, c_8]; done) | (clear S hX G hl; grind [pl1M])), rfl, rfl⟩ G (lv_sub hl [0, 1, 2, 3, 4] rfl)
        · refine lv_aload_n S.1 S.2.1 dX9_placeOf_22 rfl (lv_at hl 2 rfl) ?_
          refine s_get S hX G (i := 161) (kd := 9) (a := (I 161)) (v := .ref (E.2.2.2 162)) (C := RX9) (T := TX9) (N := 13) 0 (rfl : sh 161 = 9) rfl rfl rfl (by decide) rfl (fun _ h => (List.mem_cons_of_mem _ (List.mem_append_right _ h))) (by decide) (List.mem_of_getElem? (i := 1) rfl) (fun _ h => h) dX9_placeOf_23 ?_
          refine lv_iload_n S.1 S.2.1 dX9_placeOf_26 rfl (lv_at hl 3 rfl) ?_
          refine s_callS (As := [.int (1 : Int32)]) (rest := [.ref (E.2.2.2 162), .int (((0 : Int32) + pl1M d 70 1 0) + pl1M d 70 1 1)]) S hX G (k_X9_loadAt_1 l E) (va_cwS (bytes := cX9_loadAt) (maxL := 1) (ret := (some .int)) 1 S.2.2.2.2 gX9_placeOf_X9_loadAt rfl rfl rfl (by decide +kernel) ⟨Nat.le_of_ble_eq_true rfl, Nat.le_of_ble_eq_true rfl⟩) rfl hl.1 rfl (Nat.le_of_ble_eq_true rfl) ⟨Nat.zero_le _, Nat.zero_le _⟩ dX9_placeOf_27 (fun v I1 L1 H locs hR G => ?_)
          obtain ⟨hv, hI, hL⟩ := hR
          subst hv
          have G : GS E I L sg H locs := G.same hI hL
          refine W.eq (g2 := F0 mg 30 ls [.int (70 : Int32), .ref (E.2.2.2 162), .int (((0 : Int32) + pl1M d 70 1 0) + pl1M d 70 1 1)]) rfl ?_
          refine lv_bipush (v := (12 : Int32)) S.1 S.2.1 dX9_placeOf_30 (by decide) ?_
          refine s_iadd (v := (82 : Int32)) S dX9_placeOf_32 (by decide) ?_
          refine lv_iconst (v := (3 : Int32)) S.1 S.2.1 dX9_placeOf_33 (by decide) ?_
          refine lv_iload S.1 S.2.1 dX9_placeOf_34 (lv_at hl 0 rfl) ?_
          refine s_imul (v := (6 : Int32)) S dX9_placeOf_36 (by decide) ?_
          refine s_iadd (v := (88 : Int32)) S dX9_placeOf_37 (by decide) ?_
          refine lv_iconst (v := (2 : Int32)) S.1 S.2.1 dX9_placeOf_38 (by decide) ?_
          refine s_iadd (v := (90 : Int32)) S dX9_placeOf_39 (by decide) ?_
          refine s_iald S hX G (i := 162) (kd := 284) (n := 270) (a := d) (x := (d 90)) (rfl : sh 162 = 284) e_d rfl (by decide) (by unfold vp_in; decide) (congrArg d (by decide)) dX9_placeOf_40 ?_
          refine lv_aload_n S.1 S.2.1 dX9_placeOf_41 rfl (lv_at hl 2 rfl) ?_
          refine s_get S hX G (i := 161) (kd := 9) (a := (I 161)) (v := .ref (E.2.2.2 162)) (C := RX9) (T := TX9) (N := 13) 0 (rfl : sh 161 = 9) rfl rfl rfl (by decide) rfl (fun _ h => (List.mem_cons_of_mem _ (List.mem_append_right _ h))) (by decide) (List.mem_of_getElem? (i := 1) rfl) (fun _ h => h) dX9_placeOf_42 ?_
          refine lv_iload_n S.1 S.2.1 dX9_placeOf_45 rfl (lv_at hl 3 rfl) ?_
          refine s_callS (As := [.int (1 : Int32)]) (rest := [.ref (E.2.2.2 162), .int (d 90), .int (((0 : Int32) + pl1M d 70 1 0) + pl1M d 70 1 1)]) S hX G (k_X9_loadAt_1 l E) (va_cwS (bytes := cX9_loadAt) (maxL := 1) (ret := (some .int)) 1 S.2.2.2.2 gX9_placeOf_X9_loadAt rfl rfl rfl (by decide +kernel) ⟨Nat.le_of_ble_eq_true rfl, Nat.le_of_ble_eq_true rfl⟩) rfl hl.1 rfl (Nat.le_of_ble_eq_true rfl) ⟨Nat.zero_le _, Nat.zero_le _⟩ dX9_placeOf_46 (fun v I1 L1 H locs hR G => ?_)
          obtain ⟨hv, hI, hL⟩ := hR
          subst hv
          have G : GS E I L sg H locs := G.same hI hL
          refine W.eq (g2 := F0 mg 49 ls [.int (70 : Int32), .ref (E.2.2.2 162), .int (d 90), .int (((0 : Int32) + pl1M d 70 1 0) + pl1M d 70 1 1)]) rfl ?_
          refine lv_bipush (v := (12 : Int32)) S.1 S.2.1 dX9_placeOf_49 (by decide) ?_
          refine s_iadd (v := (82 : Int32)) S dX9_placeOf_51 (by decide) ?_
          refine lv_iconst (v := (3 : Int32)) S.1 S.2.1 dX9_placeOf_52 (by decide) ?_
          refine lv_iload_n S.1 S.2.1 dX9_placeOf_53 rfl (lv_at hl 4 rfl) ?_
          refine s_imul (v := (3 : Int32)) S dX9_placeOf_54 (by decide) ?_
          refine s_iadd (v := (85 : Int32)) S dX9_placeOf_55 (by decide) ?_
          refine lv_iconst (v := (2 : Int32)) S.1 S.2.1 dX9_placeOf_56 (by decide) ?_
          refine s_iadd (v := (87 : Int32)) S dX9_placeOf_57 (by decide) ?_
          refine s_iald S hX G (i := 162) (kd := 284) (n := 270) (a := d) (x := (d 87)) (rfl : sh 162 = 284) e_d rfl (by decide) (by unfold vp_in; decide) (congrArg d (by decide)) dX9_placeOf_58 ?_
          refine lv_icmp_ge (tgt := 66) S.1 S.2.1 dX9_placeOf_59 (by decide) (fun c_9 => ?_) (fun c_9 => ?_)
          · refine lv_iconst (v := (0 : Int32)) S.1 S.2.1 dX9_placeOf_66 (by decide) ?_
            refine s_iadd (v := ((((0 : Int32) + pl1M d 70 1 0) + pl1M d 70 1 1) + (0 : Int32))) S dX9_placeOf_67 rfl ?_
            refine lv_istore_n (lv' := [(3, .int ((((0 : Int32) + pl1M d 70 1 0) + pl1M d 70 1 1) + (0 : Int32))), (4, .int (2 : Int32)), (0, .ref (E.2.2.2 161)), (1, .int (1 : Int32)), (2, .int (1 : Int32))]) S.1 S.2.1 dX9_placeOf_68 rfl hl (by decide) rfl (fun ls hl => ?_)
            refine lv_iinc (v := (3 : Int32)) (lv' := [(4, .int (3 : Int32)), (3, .int ((((0 : Int32) + pl1M d 70 1 0) + pl1M d 70 1 1) + (0 : Int32))), (0, .ref (E.2.2.2 161)), (1, .int (1 : Int32)), (2, .int (1 : Int32))]) S.1 S.2.1 dX9_placeOf_69 hl (k := 1) rfl (by decide) (by decide) rfl (fun ls hl => ?_)
            refine lv_goto (tgt := 5) S.1 S.2.1 dX9_placeOf_72 (by decide) ?_
            exact kJ_7 ((((0 : Int32) + pl1M d 70 1 0) + pl1M d 70 1 1) + (0 : Int32)) _ _ _ _ _ ⟨(show ((((0 : Int32) + pl1M d 70 1 0) + pl1M d 70 1 1) + (0 : Int32)) = (((0 : Int32) + pl1M d 70 1 0) + pl1M d 70 1 1) + pl1M d 70 1 2 by first | (simp [pl1M, c_8, c_9]; done) | (clear S hX G hl; grind [pl1M])), rfl, rfl⟩ G (lv_sub hl [0, 1, 2, 3, 4] rfl)
          · refine lv_iconst (v := (1 : Int32)) S.1 S.2.1 dX9_placeOf_62 (by decide) ?_
            refine lv_goto (tgt := 67) S.1 S.2.1 dX9_placeOf_63 (by decide) ?_
            refine s_iadd (v := ((((0 : Int32) + pl1M d 70 1 0) + pl1M d 70 1 1) + (1 : Int32))) S dX9_placeOf_67 rfl ?_
            refine lv_istore_n (lv' := [(3, .int ((((0 : Int32) + pl1M d 70 1 0) + pl1M d 70 1 1) + (1 : Int32))), (4, .int (2 : Int32)), (0, .ref (E.2.2.2 161)), (1, .int (1 : Int32)), (2, .int (1 : Int32))]) S.1 S.2.1 dX9_placeOf_68 rfl hl (by decide) rfl (fun ls hl => ?_)
            refine lv_iinc (v := (3 : Int32)) (lv' := [(4, .int (3 : Int32)), (3, .int ((((0 : Int32) + pl1M d 70 1 0) + pl1M d 70 1 1) + (1 : Int32))), (0, .ref (E.2.2.2 161)), (1, .int (1 : Int32)), (2, .int (1 : Int32))]) S.1 S.2.1 dX9_placeOf_69 hl (k := 1) rfl (by decide) (by decide) rfl (fun ls hl => ?_)
            refine lv_goto (tgt := 5) S.1 S.2.1 dX9_placeOf_72 (by decide) ?_
            exact kJ_7 ((((0 : Int32) + pl1M d 70 1 0) + pl1M d 70 1 1) + (1 : Int32)) _ _ _ _ _ ⟨(show ((((0 : Int32) + pl1M d 70 1 0) + pl1M d 70 1 1) + (1 : Int32)) = (((0 : Int32) + pl1M d 70 1 0) + pl1M d 70 1 1) + pl1M d 70 1 2 by first | (simp [pl1M, c_8, c_9]; done) | (clear S hX G hl; grind [pl1M])), rfl, rfl⟩ G (lv_sub hl [0, 1, 2, 3, 4] rfl)
      · obtain ⟨h0, hI, hL⟩ := hP
        have h0 : x = ((((0 : Int32) + pl1M d 70 1 0) + pl1M d 70 1 1) + pl1M d 70 1 2) := h0
        have hl : lv_has ls 5 [(4, .int (3 : Int32)), (3, .int x), (0, .ref (E.2.2.2 161)), (1, .int (1 : Int32)), (2, .int (1 : Int32))] := hl
        subst h0
        have G : GS E I L sg H locs := G.same hI hL
        refine W.eq (g2 := F0 mg 5 ls []) rfl ?_
        refine lv_iload S.1 S.2.1 dX9_placeOf_5 (lv_at hl 0 rfl) ?_
        refine lv_iconst (v := (3 : Int32)) S.1 S.2.1 dX9_placeOf_7 (by decide) ?_
        refine lv_icmp_ge (tgt := 75) S.1 S.2.1 dX9_placeOf_8 (by decide) (fun _ => ?_) (fun h => absurd (by decide) h)
        refine lv_iload_n S.1 S.2.1 dX9_placeOf_75 rfl (lv_at hl 1 rfl) ?_
        refine s_iret (x := ((((0 : Int32) + pl1M d 70 1 0) + pl1M d 70 1 1) + pl1M d 70 1 2)) S G hr hlk dX9_placeOf_76 ?_
        exact ⟨(congrArg (fun q : Int32 => some (Value.int q)) (show ((((0 : Int32) + pl1M d 70 1 0) + pl1M d 70 1 1) + pl1M d 70 1 2) = (plcM d 70 1) by rfl)), rfl, rfl⟩
set_option maxHeartbeats 4000000 in
set_option maxRecDepth 100000 in
theorem k_X9_canClear_1_1 (l : Launch) (E : Ev) {I : SI} {L : SL} (d : Nat → Int32) (e_d : I (162) = d) : CS l yX9_canClear wsX9_canClear ({ frames := 3, cells := 0, slots := 0, locals := 66 }) E [.ref (E.2.2.2 161), .int (1 : Int32), .int (1 : Int32)] I L (fun vv I' L' => vv = some (.int (if ¬ d 85 = -1 ∧ ¬ ¬ plcM d 70 1 ≤ 0 then 1 else 0)) ∧ I' = I ∧ L' = L) := by
  refine CS.of (cc := cX9_canClear) (maxL := 3) (ret := (some .boolean)) (by decide) rfl (Nat.le_of_ble_eq_true rfl) ?_
  intro pg en sg mg below meth cg ls S hr hlk hX G hl
  have S : CallFix pg mg cg cX9_canClear 3 sg _ wsX9_canClear RX9 := S
  have hl : lv_has ls 3 [(0, .ref (E.2.2.2 161)), (1, .int (1 : Int32)), (2, .int (1 : Int32))] := hl
  refine lv_aload_n S.1 S.2.1 dX9_canClear_0 rfl (lv_at hl 0 rfl) ?_
  refine lv_iload_n S.1 S.2.1 dX9_canClear_1 rfl (lv_at hl 1 rfl) ?_
  refine lv_iload_n S.1 S.2.1 dX9_canClear_2 rfl (lv_at hl 2 rfl) ?_
  refine s_callV (C := RX9) (As := [.int (1 : Int32), .int (1 : Int32)]) (rest := []) (i := 161) (kd := 9) S hX G (k_X9_isLatched_1_1 l E d e_d) (cwV (bytes := cX9_isLatched) (maxL := 3) (ret := (some .boolean)) 2 S.2.2.2.2 gX9_canClear_X9_isLatched rfl rfl rfl (by decide +kernel) ⟨Nat.le_of_ble_eq_true rfl, Nat.le_of_ble_eq_true rfl⟩) (rfl : sh 161 = 9) rfl rfl rfl (by decide) rfl hl.1 rfl (Nat.le_of_ble_eq_true rfl) ⟨Nat.zero_le _, Nat.zero_le _⟩ dX9_canClear_3 (fun v I1 L1 H locs hR G => ?_)
  obtain ⟨hv, hI, hL⟩ := hR
  subst hv
  have G : GS E I L sg H locs := G.same hI hL
  refine W.eq (g2 := F0 mg 6 ls [.int (if ¬ d 85 = -1 then 1 else 0)]) rfl ?_
  refine s_if_eq_b (P := ¬ d 85 = -1) (tgt := 18) S dX9_canClear_6 (by decide) (fun c_1 => ?_) (fun c_1 => ?_)
  · refine lv_iconst (v := (0 : Int32)) S.1 S.2.1 dX9_canClear_18 (by decide) ?_
    refine s_zret (x := (0 : Int32)) S G hr hlk dX9_canClear_19 (Or.inl rfl) ?_
    exact ⟨(congrArg (fun q : Int32 => some (Value.int q)) (show (0 : Int32) = (if ¬ d 85 = -1 ∧ ¬ ¬ plcM d 70 1 ≤ 0 then 1 else 0) by first | (simp [c_1]; done) | (clear S hX G hl; grind))), rfl, rfl⟩
  · refine lv_aload_n S.1 S.2.1 dX9_canClear_9 rfl (lv_at hl 0 rfl) ?_
    refine lv_iload_n S.1 S.2.1 dX9_canClear_10 rfl (lv_at hl 1 rfl) ?_
    refine lv_iload_n S.1 S.2.1 dX9_canClear_11 rfl (lv_at hl 2 rfl) ?_
    refine s_callV (C := RX9) (As := [.int (1 : Int32), .int (1 : Int32)]) (rest := []) (i := 161) (kd := 9) S hX G (k_X9_placeOf_1_1 l E d e_d) (cwV (bytes := cX9_placeOf) (maxL := 5) (ret := (some .int)) 2 S.2.2.2.2 gX9_canClear_X9_placeOf rfl rfl rfl (by decide +kernel) ⟨Nat.le_of_ble_eq_true rfl, Nat.le_of_ble_eq_true rfl⟩) (rfl : sh 161 = 9) rfl rfl rfl (by decide) rfl hl.1 rfl (Nat.le_of_ble_eq_true rfl) ⟨Nat.zero_le _, Nat.zero_le _⟩ dX9_canClear_12 (fun v I1 L1 H locs hR G => ?_)
    obtain ⟨hv, hI, hL⟩ := hR
    subst hv
    have G : GS E I L sg H locs := G.same hI hL
    refine W.eq (g2 := F0 mg 15 ls [.int (plcM d 70 1)]) rfl ?_
    refine lv_topi (fun y_2 ey_2 => ?_)
    refine lv_if_le (tgt := 20) S.1 S.2.1 dX9_canClear_15 (by decide) (fun c_3 => ?_) (fun c_3 => ?_)
    · refine lv_iload_n S.1 S.2.1 dX9_canClear_20 rfl (lv_at hl 2 rfl) ?_
      refine lv_if_ne (tgt := 46) S.1 S.2.1 dX9_canClear_21 (by decide) (fun _ => ?_) (fun h => absurd h (by decide))
      refine lv_iload_n S.1 S.2.1 dX9_canClear_46 rfl (lv_at hl 2 rfl) ?_
      refine lv_iconst (v := (1 : Int32)) S.1 S.2.1 dX9_canClear_47 (by decide) ?_
      refine lv_icmp_eq (tgt := 73) S.1 S.2.1 dX9_canClear_48 (by decide) (fun _ => ?_) (fun h => absurd (by decide) h)
      refine lv_iconst (v := (1 : Int32)) S.1 S.2.1 dX9_canClear_73 (by decide) ?_
      refine lv_goto (tgt := 78) S.1 S.2.1 dX9_canClear_74 (by decide) ?_
      refine s_zret (x := (1 : Int32)) S G hr hlk dX9_canClear_78 (Or.inr rfl) ?_
      exact ⟨(congrArg (fun q : Int32 => some (Value.int q)) (show (1 : Int32) = (if ¬ d 85 = -1 ∧ ¬ ¬ plcM d 70 1 ≤ 0 then 1 else 0) by subst ey_2; (first | (simp [c_1, c_3]; done) | (clear S hX G hl; grind)))), rfl, rfl⟩
    · refine lv_iconst (v := (0 : Int32)) S.1 S.2.1 dX9_canClear_18 (by decide) ?_
      refine s_zret (x := (0 : Int32)) S G hr hlk dX9_canClear_19 (Or.inl rfl) ?_
      exact ⟨(congrArg (fun q : Int32 => some (Value.int q)) (show (0 : Int32) = (if ¬ d 85 = -1 ∧ ¬ ¬ plcM d 70 1 ≤ 0 then 1 else 0) by subst ey_2; (first | (simp [c_1, c_3]; done) | (clear S hX G hl; grind)))), rfl, rfl⟩
set_option maxHeartbeats 4000000 in
set_option maxRecDepth 100000 in
theorem k_X9_placeOf_1_2 (l : Launch) (E : Ev) {I : SI} {L : SL} (d : Nat → Int32) (e_d : I (162) = d) : CS l yX9_placeOf wsX9_placeOf ({ frames := 2, cells := 0, slots := 0, locals := 42 }) E [.ref (E.2.2.2 161), .int (1 : Int32), .int (2 : Int32)] I L (fun vv I' L' => vv = some (.int (plcM d 70 2)) ∧ I' = I ∧ L' = L) := by
  refine CS.of (cc := cX9_placeOf) (maxL := 5) (ret := (some .int)) (by decide) rfl (Nat.le_of_ble_eq_true rfl) ?_
  intro pg en sg mg below meth cg ls S hr hlk hX G hl
  have S : CallFix pg mg cg cX9_placeOf 5 sg _ wsX9_placeOf RX9 := S
  have hl : lv_has ls 5 [(0, .ref (E.2.2.2 161)), (1, .int (1 : Int32)), (2, .int (2 : Int32))] := hl
  refine lv_iconst (v := (0 : Int32)) S.1 S.2.1 dX9_placeOf_0 (by decide) ?_
  refine lv_istore_n (lv' := [(3, .int (0 : Int32)), (0, .ref (E.2.2.2 161)), (1, .int (1 : Int32)), (2, .int (2 : Int32))]) S.1 S.2.1 dX9_placeOf_1 rfl hl (by decide) rfl (fun ls hl => ?_)
  refine lv_iconst (v := (0 : Int32)) S.1 S.2.1 dX9_placeOf_2 (by decide) ?_
  refine lv_istore (lv' := [(4, .int (0 : Int32)), (3, .int (0 : Int32)), (0, .ref (E.2.2.2 161)), (1, .int (1 : Int32)), (2, .int (2 : Int32))]) S.1 S.2.1 dX9_placeOf_3 hl (by decide) rfl (fun ls hl => ?_)
  refine s_cut (α := Int32) (nL := 5) (E := E) (fun x I' L' => x = ((0 : Int32) + pl1M d 70 2 0) ∧ I' = I ∧ L' = L) (fun x => [(4, .int (1 : Int32)), (3, .int x), (0, .ref (E.2.2.2 161)), (1, .int (1 : Int32)), (2, .int (2 : Int32))]) 5 (fun x => []) (fun kJ_1 => ?_) (fun x I1 L1 H locs ls hP G hl => ?_)
  · refine lv_iload S.1 S.2.1 dX9_placeOf_5 (lv_at hl 0 rfl) ?_
    refine lv_iconst (v := (3 : Int32)) S.1 S.2.1 dX9_placeOf_7 (by decide) ?_
    refine lv_icmp_ge (tgt := 75) S.1 S.2.1 dX9_placeOf_8 (by decide) (fun h => absurd h (by decide)) (fun _ => ?_)
    refine lv_iload_n S.1 S.2.1 dX9_placeOf_11 rfl (lv_at hl 1 rfl) ?_
    refine lv_aload_n S.1 S.2.1 dX9_placeOf_12 rfl (lv_at hl 2 rfl) ?_
    refine lv_iload_n S.1 S.2.1 dX9_placeOf_13 rfl (lv_at hl 3 rfl) ?_
    refine lv_iload S.1 S.2.1 dX9_placeOf_14 (lv_at hl 0 rfl) ?_
    refine s_callV (C := RX9) (As := [.int (1 : Int32), .int (0 : Int32)]) (rest := [.int (0 : Int32)]) (i := 161) (kd := 9) S hX G (k_X9_isLatched_1_0 l E d e_d) (cwV (bytes := cX9_isLatched) (maxL := 3) (ret := (some .boolean)) 2 S.2.2.2.2 gX9_placeOf_X9_isLatched rfl rfl rfl (by decide +kernel) ⟨Nat.le_of_ble_eq_true rfl, Nat.le_of_ble_eq_true rfl⟩) (rfl : sh 161 = 9) rfl rfl rfl (by decide) rfl hl.1 rfl (Nat.le_of_ble_eq_true rfl) ⟨Nat.zero_le _, Nat.zero_le _⟩ dX9_placeOf_16 (fun v I1 L1 H locs hR G => ?_)
    obtain ⟨hv, hI, hL⟩ := hR
    subst hv
    have G : GS E I L sg H locs := G.same hI hL
    refine W.eq (g2 := F0 mg 19 ls [.int (if ¬ d 82 = -1 then 1 else 0), .int (0 : Int32)]) rfl ?_
    refine s_if_eq_b (P := ¬ d 82 = -1) (tgt := 66) S dX9_placeOf_19 (by decide) (fun c_2 => ?_) (fun c_2 => ?_)
    · refine lv_iconst (v := (0 : Int32)) S.1 S.2.1 dX9_placeOf_66 (by decide) ?_
      refine s_iadd (v := (0 : Int32)) S dX9_placeOf_67 (by decide) ?_
      refine lv_istore_n (lv' := [(3, .int (0 : Int32)), (4, .int (0 : Int32)), (0, .ref (E.2.2.2 161)), (1, .int (1 : Int32)), (2, .int (2 : Int32))]) S.1 S.2.1 dX9_placeOf_68 rfl hl (by decide) rfl (fun ls hl => ?_)
      refine lv_iinc (v := (1 : Int32)) (lv' := [(4, .int (1 : Int32)), (3, .int (0 : Int32)), (0, .ref (E.2.2.2 161)), (1, .int (1 : Int32)), (2, .int (2 : Int32))]) S.1 S.2.1 dX9_placeOf_69 hl (k := 1) rfl (by decide) (by decide) rfl (fun ls hl => ?_)
      refine lv_goto (tgt := 5) S.1 S.2.1 dX9_placeOf_72 (by decide) ?_
      exact kJ_1 (0 : Int32) _ _ _ _ _ ⟨(show (0 : Int32) = (0 : Int32) + pl1M d 70 2 0 by first | (simp [pl1M, c_2]; done) | (clear S hX G hl; grind [pl1M])), rfl, rfl⟩ G (lv_sub hl [0, 1, 2, 3, 4] rfl)
    · refine lv_aload_n S.1 S.2.1 dX9_placeOf_22 rfl (lv_at hl 2 rfl) ?_
      refine s_get S hX G (i := 161) (kd := 9) (a := (I 161)) (v := .ref (E.2.2.2 162)) (C := RX9) (T := TX9) (N := 13) 0 (rfl : sh 161 = 9) rfl rfl rfl (by decide) rfl (fun _ h => (List.mem_cons_of_mem _ (List.mem_append_right _ h))) (by decide) (List.mem_of_getElem? (i := 1) rfl) (fun _ h => h) dX9_placeOf_23 ?_
      refine lv_iload_n S.1 S.2.1 dX9_placeOf_26 rfl (lv_at hl 3 rfl) ?_
      refine s_callS (As := [.int (1 : Int32)]) (rest := [.ref (E.2.2.2 162), .int (0 : Int32)]) S hX G (k_X9_loadAt_1 l E) (va_cwS (bytes := cX9_loadAt) (maxL := 1) (ret := (some .int)) 1 S.2.2.2.2 gX9_placeOf_X9_loadAt rfl rfl rfl (by decide +kernel) ⟨Nat.le_of_ble_eq_true rfl, Nat.le_of_ble_eq_true rfl⟩) rfl hl.1 rfl (Nat.le_of_ble_eq_true rfl) ⟨Nat.zero_le _, Nat.zero_le _⟩ dX9_placeOf_27 (fun v I1 L1 H locs hR G => ?_)
      obtain ⟨hv, hI, hL⟩ := hR
      subst hv
      have G : GS E I L sg H locs := G.same hI hL
      refine W.eq (g2 := F0 mg 30 ls [.int (70 : Int32), .ref (E.2.2.2 162), .int (0 : Int32)]) rfl ?_
      refine lv_bipush (v := (12 : Int32)) S.1 S.2.1 dX9_placeOf_30 (by decide) ?_
      refine s_iadd (v := (82 : Int32)) S dX9_placeOf_32 (by decide) ?_
      refine lv_iconst (v := (3 : Int32)) S.1 S.2.1 dX9_placeOf_33 (by decide) ?_
      refine lv_iload S.1 S.2.1 dX9_placeOf_34 (lv_at hl 0 rfl) ?_
      refine s_imul (v := (0 : Int32)) S dX9_placeOf_36 (by decide) ?_
      refine s_iadd (v := (82 : Int32)) S dX9_placeOf_37 (by decide) ?_
      refine lv_iconst (v := (2 : Int32)) S.1 S.2.1 dX9_placeOf_38 (by decide) ?_
      refine s_iadd (v := (84 : Int32)) S dX9_placeOf_39 (by decide) ?_
      refine s_iald S hX G (i := 162) (kd := 284) (n := 270) (a := d) (x := (d 84)) (rfl : sh 162 = 284) e_d rfl (by decide) (by unfold vp_in; decide) (congrArg d (by decide)) dX9_placeOf_40 ?_
      refine lv_aload_n S.1 S.2.1 dX9_placeOf_41 rfl (lv_at hl 2 rfl) ?_
      refine s_get S hX G (i := 161) (kd := 9) (a := (I 161)) (v := .ref (E.2.2.2 162)) (C := RX9) (T := TX9) (N := 13) 0 (rfl : sh 161 = 9) rfl rfl rfl (by decide) rfl (fun _ h => (List.mem_cons_of_mem _ (List.mem_append_right _ h))) (by decide) (List.mem_of_getElem? (i := 1) rfl) (fun _ h => h) dX9_placeOf_42 ?_
      refine lv_iload_n S.1 S.2.1 dX9_placeOf_45 rfl (lv_at hl 3 rfl) ?_
      refine s_callS (As := [.int (1 : Int32)]) (rest := [.ref (E.2.2.2 162), .int (d 84), .int (0 : Int32)]) S hX G (k_X9_loadAt_1 l E) (va_cwS (bytes := cX9_loadAt) (maxL := 1) (ret := (some .int)) 1 S.2.2.2.2 gX9_placeOf_X9_loadAt rfl rfl rfl (by decide +kernel) ⟨Nat.le_of_ble_eq_true rfl, Nat.le_of_ble_eq_true rfl⟩) rfl hl.1 rfl (Nat.le_of_ble_eq_true rfl) ⟨Nat.zero_le _, Nat.zero_le _⟩ dX9_placeOf_46 (fun v I1 L1 H locs hR G => ?_)
      obtain ⟨hv, hI, hL⟩ := hR
      subst hv
      have G : GS E I L sg H locs := G.same hI hL
      refine W.eq (g2 := F0 mg 49 ls [.int (70 : Int32), .ref (E.2.2.2 162), .int (d 84), .int (0 : Int32)]) rfl ?_
      refine lv_bipush (v := (12 : Int32)) S.1 S.2.1 dX9_placeOf_49 (by decide) ?_
      refine s_iadd (v := (82 : Int32)) S dX9_placeOf_51 (by decide) ?_
      refine lv_iconst (v := (3 : Int32)) S.1 S.2.1 dX9_placeOf_52 (by decide) ?_
      refine lv_iload_n S.1 S.2.1 dX9_placeOf_53 rfl (lv_at hl 4 rfl) ?_
      refine s_imul (v := (6 : Int32)) S dX9_placeOf_54 (by decide) ?_
      refine s_iadd (v := (88 : Int32)) S dX9_placeOf_55 (by decide) ?_
      refine lv_iconst (v := (2 : Int32)) S.1 S.2.1 dX9_placeOf_56 (by decide) ?_
      refine s_iadd (v := (90 : Int32)) S dX9_placeOf_57 (by decide) ?_
      refine s_iald S hX G (i := 162) (kd := 284) (n := 270) (a := d) (x := (d 90)) (rfl : sh 162 = 284) e_d rfl (by decide) (by unfold vp_in; decide) (congrArg d (by decide)) dX9_placeOf_58 ?_
      refine lv_icmp_ge (tgt := 66) S.1 S.2.1 dX9_placeOf_59 (by decide) (fun c_3 => ?_) (fun c_3 => ?_)
      · refine lv_iconst (v := (0 : Int32)) S.1 S.2.1 dX9_placeOf_66 (by decide) ?_
        refine s_iadd (v := (0 : Int32)) S dX9_placeOf_67 (by decide) ?_
        refine lv_istore_n (lv' := [(3, .int (0 : Int32)), (4, .int (0 : Int32)), (0, .ref (E.2.2.2 161)), (1, .int (1 : Int32)), (2, .int (2 : Int32))]) S.1 S.2.1 dX9_placeOf_68 rfl hl (by decide) rfl (fun ls hl => ?_)
        refine lv_iinc (v := (1 : Int32)) (lv' := [(4, .int (1 : Int32)), (3, .int (0 : Int32)), (0, .ref (E.2.2.2 161)), (1, .int (1 : Int32)), (2, .int (2 : Int32))]) S.1 S.2.1 dX9_placeOf_69 hl (k := 1) rfl (by decide) (by decide) rfl (fun ls hl => ?_)
        refine lv_goto (tgt := 5) S.1 S.2.1 dX9_placeOf_72 (by decide) ?_
        exact kJ_1 (0 : Int32) _ _ _ _ _ ⟨(show (0 : Int32) = (0 : Int32) + pl1M d 70 2 0 by first | (simp [pl1M, c_2, c_3]; done) | (clear S hX G hl; grind [pl1M])), rfl, rfl⟩ G (lv_sub hl [0, 1, 2, 3, 4] rfl)
      · refine lv_iconst (v := (1 : Int32)) S.1 S.2.1 dX9_placeOf_62 (by decide) ?_
        refine lv_goto (tgt := 67) S.1 S.2.1 dX9_placeOf_63 (by decide) ?_
        refine s_iadd (v := (1 : Int32)) S dX9_placeOf_67 (by decide) ?_
        refine lv_istore_n (lv' := [(3, .int (1 : Int32)), (4, .int (0 : Int32)), (0, .ref (E.2.2.2 161)), (1, .int (1 : Int32)), (2, .int (2 : Int32))]) S.1 S.2.1 dX9_placeOf_68 rfl hl (by decide) rfl (fun ls hl => ?_)
        refine lv_iinc (v := (1 : Int32)) (lv' := [(4, .int (1 : Int32)), (3, .int (1 : Int32)), (0, .ref (E.2.2.2 161)), (1, .int (1 : Int32)), (2, .int (2 : Int32))]) S.1 S.2.1 dX9_placeOf_69 hl (k := 1) rfl (by decide) (by decide) rfl (fun ls hl => ?_)
        refine lv_goto (tgt := 5) S.1 S.2.1 dX9_placeOf_72 (by decide) ?_
        exact kJ_1 (1 : Int32) _ _ _ _ _ ⟨(show (1 : Int32) = (0 : Int32) + pl1M d 70 2 0 by first | (simp [pl1M, c_2, c_3]; done) | (clear S hX G hl; grind [pl1M])), rfl, rfl⟩ G (lv_sub hl [0, 1, 2, 3, 4] rfl)
  · obtain ⟨h0, hI, hL⟩ := hP
    have h0 : x = ((0 : Int32) + pl1M d 70 2 0) := h0
    have hl : lv_has ls 5 [(4, .int (1 : Int32)), (3, .int x), (0, .ref (E.2.2.2 161)), (1, .int (1 : Int32)), (2, .int (2 : Int32))] := hl
    subst h0
    have G : GS E I L sg H locs := G.same hI hL
    refine W.eq (g2 := F0 mg 5 ls []) rfl ?_
    refine s_cut (α := Int32) (nL := 5) (E := E) (fun x I' L' => x = (((0 : Int32) + pl1M d 70 2 0) + pl1M d 70 2 1) ∧ I' = I ∧ L' = L) (fun x => [(4, .int (2 : Int32)), (3, .int x), (0, .ref (E.2.2.2 161)), (1, .int (1 : Int32)), (2, .int (2 : Int32))]) 5 (fun x => []) (fun kJ_4 => ?_) (fun x I1 L1 H locs ls hP G hl => ?_)
    · refine lv_iload S.1 S.2.1 dX9_placeOf_5 (lv_at hl 0 rfl) ?_
      refine lv_iconst (v := (3 : Int32)) S.1 S.2.1 dX9_placeOf_7 (by decide) ?_
      refine lv_icmp_ge (tgt := 75) S.1 S.2.1 dX9_placeOf_8 (by decide) (fun h => absurd h (by decide)) (fun _ => ?_)
      refine lv_iload_n S.1 S.2.1 dX9_placeOf_11 rfl (lv_at hl 1 rfl) ?_
      refine lv_aload_n S.1 S.2.1 dX9_placeOf_12 rfl (lv_at hl 2 rfl) ?_
      refine lv_iload_n S.1 S.2.1 dX9_placeOf_13 rfl (lv_at hl 3 rfl) ?_
      refine lv_iload S.1 S.2.1 dX9_placeOf_14 (lv_at hl 0 rfl) ?_
      refine s_callV (C := RX9) (As := [.int (1 : Int32), .int (1 : Int32)]) (rest := [.int ((0 : Int32) + pl1M d 70 2 0)]) (i := 161) (kd := 9) S hX G (k_X9_isLatched_1_1 l E d e_d) (cwV (bytes := cX9_isLatched) (maxL := 3) (ret := (some .boolean)) 2 S.2.2.2.2 gX9_placeOf_X9_isLatched rfl rfl rfl (by decide +kernel) ⟨Nat.le_of_ble_eq_true rfl, Nat.le_of_ble_eq_true rfl⟩) (rfl : sh 161 = 9) rfl rfl rfl (by decide) rfl hl.1 rfl (Nat.le_of_ble_eq_true rfl) ⟨Nat.zero_le _, Nat.zero_le _⟩ dX9_placeOf_16 (fun v I1 L1 H locs hR G => ?_)
      obtain ⟨hv, hI, hL⟩ := hR
      subst hv
      have G : GS E I L sg H locs := G.same hI hL
      refine W.eq (g2 := F0 mg 19 ls [.int (if ¬ d 85 = -1 then 1 else 0), .int ((0 : Int32) + pl1M d 70 2 0)]) rfl ?_
      refine s_if_eq_b (P := ¬ d 85 = -1) (tgt := 66) S dX9_placeOf_19 (by decide) (fun c_5 => ?_) (fun c_5 => ?_)
      · refine lv_iconst (v := (0 : Int32)) S.1 S.2.1 dX9_placeOf_66 (by decide) ?_
        refine s_iadd (v := (((0 : Int32) + pl1M d 70 2 0) + (0 : Int32))) S dX9_placeOf_67 rfl ?_
        refine lv_istore_n (lv' := [(3, .int (((0 : Int32) + pl1M d 70 2 0) + (0 : Int32))), (4, .int (1 : Int32)), (0, .ref (E.2.2.2 161)), (1, .int (1 : Int32)), (2, .int (2 : Int32))]) S.1 S.2.1 dX9_placeOf_68 rfl hl (by decide) rfl (fun ls hl => ?_)
        refine lv_iinc (v := (2 : Int32)) (lv' := [(4, .int (2 : Int32)), (3, .int (((0 : Int32) + pl1M d 70 2 0) + (0 : Int32))), (0, .ref (E.2.2.2 161)), (1, .int (1 : Int32)), (2, .int (2 : Int32))]) S.1 S.2.1 dX9_placeOf_69 hl (k := 1) rfl (by decide) (by decide) rfl (fun ls hl => ?_)
        refine lv_goto (tgt := 5) S.1 S.2.1 dX9_placeOf_72 (by decide) ?_
        exact kJ_4 (((0 : Int32) + pl1M d 70 2 0) + (0 : Int32)) _ _ _ _ _ ⟨(show (((0 : Int32) + pl1M d 70 2 0) + (0 : Int32)) = ((0 : Int32) + pl1M d 70 2 0) + pl1M d 70 2 1 by first | (simp [pl1M, c_5]; done) | (clear S hX G hl; grind [pl1M])), rfl, rfl⟩ G (lv_sub hl [0, 1, 2, 3, 4] rfl)
      · refine lv_aload_n S.1 S.2.1 dX9_placeOf_22 rfl (lv_at hl 2 rfl) ?_
        refine s_get S hX G (i := 161) (kd := 9) (a := (I 161)) (v := .ref (E.2.2.2 162)) (C := RX9) (T := TX9) (N := 13) 0 (rfl : sh 161 = 9) rfl rfl rfl (by decide) rfl (fun _ h => (List.mem_cons_of_mem _ (List.mem_append_right _ h))) (by decide) (List.mem_of_getElem? (i := 1) rfl) (fun _ h => h) dX9_placeOf_23 ?_
        refine lv_iload_n S.1 S.2.1 dX9_placeOf_26 rfl (lv_at hl 3 rfl) ?_
        refine s_callS (As := [.int (1 : Int32)]) (rest := [.ref (E.2.2.2 162), .int ((0 : Int32) + pl1M d 70 2 0)]) S hX G (k_X9_loadAt_1 l E) (va_cwS (bytes := cX9_loadAt) (maxL := 1) (ret := (some .int)) 1 S.2.2.2.2 gX9_placeOf_X9_loadAt rfl rfl rfl (by decide +kernel) ⟨Nat.le_of_ble_eq_true rfl, Nat.le_of_ble_eq_true rfl⟩) rfl hl.1 rfl (Nat.le_of_ble_eq_true rfl) ⟨Nat.zero_le _, Nat.zero_le _⟩ dX9_placeOf_27 (fun v I1 L1 H locs hR G => ?_)
        obtain ⟨hv, hI, hL⟩ := hR
        subst hv
        have G : GS E I L sg H locs := G.same hI hL
        refine W.eq (g2 := F0 mg 30 ls [.int (70 : Int32), .ref (E.2.2.2 162), .int ((0 : Int32) + pl1M d 70 2 0)]) rfl ?_
        refine lv_bipush (v := (12 : Int32)) S.1 S.2.1 dX9_placeOf_30 (by decide) ?_
        refine s_iadd (v := (82 : Int32)) S dX9_placeOf_32 (by decide) ?_
        refine lv_iconst (v := (3 : Int32)) S.1 S.2.1 dX9_placeOf_33 (by decide) ?_
        refine lv_iload S.1 S.2.1 dX9_placeOf_34 (lv_at hl 0 rfl) ?_
        refine s_imul (v := (3 : Int32)) S dX9_placeOf_36 (by decide) ?_
        refine s_iadd (v := (85 : Int32)) S dX9_placeOf_37 (by decide) ?_
        refine lv_iconst (v := (2 : Int32)) S.1 S.2.1 dX9_placeOf_38 (by decide) ?_
        refine s_iadd (v := (87 : Int32)) S dX9_placeOf_39 (by decide) ?_
        refine s_iald S hX G (i := 162) (kd := 284) (n := 270) (a := d) (x := (d 87)) (rfl : sh 162 = 284) e_d rfl (by decide) (by unfold vp_in; decide) (congrArg d (by decide)) dX9_placeOf_40 ?_
        refine lv_aload_n S.1 S.2.1 dX9_placeOf_41 rfl (lv_at hl 2 rfl) ?_
        refine s_get S hX G (i := 161) (kd := 9) (a := (I 161)) (v := .ref (E.2.2.2 162)) (C := RX9) (T := TX9) (N := 13) 0 (rfl : sh 161 = 9) rfl rfl rfl (by decide) rfl (fun _ h => (List.mem_cons_of_mem _ (List.mem_append_right _ h))) (by decide) (List.mem_of_getElem? (i := 1) rfl) (fun _ h => h) dX9_placeOf_42 ?_
        refine lv_iload_n S.1 S.2.1 dX9_placeOf_45 rfl (lv_at hl 3 rfl) ?_
        refine s_callS (As := [.int (1 : Int32)]) (rest := [.ref (E.2.2.2 162), .int (d 87), .int ((0 : Int32) + pl1M d 70 2 0)]) S hX G (k_X9_loadAt_1 l E) (va_cwS (bytes := cX9_loadAt) (maxL := 1) (ret := (some .int)) 1 S.2.2.2.2 gX9_placeOf_X9_loadAt rfl rfl rfl (by decide +kernel) ⟨Nat.le_of_ble_eq_true rfl, Nat.le_of_ble_eq_true rfl⟩) rfl hl.1 rfl (Nat.le_of_ble_eq_true rfl) ⟨Nat.zero_le _, Nat.zero_le _⟩ dX9_placeOf_46 (fun v I1 L1 H locs hR G => ?_)
        obtain ⟨hv, hI, hL⟩ := hR
        subst hv
        have G : GS E I L sg H locs := G.same hI hL
        refine W.eq (g2 := F0 mg 49 ls [.int (70 : Int32), .ref (E.2.2.2 162), .int (d 87), .int ((0 : Int32) + pl1M d 70 2 0)]) rfl ?_
        refine lv_bipush (v := (12 : Int32)) S.1 S.2.1 dX9_placeOf_49 (by decide) ?_
        refine s_iadd (v := (82 : Int32)) S dX9_placeOf_51 (by decide) ?_
        refine lv_iconst (v := (3 : Int32)) S.1 S.2.1 dX9_placeOf_52 (by decide) ?_
        refine lv_iload_n S.1 S.2.1 dX9_placeOf_53 rfl (lv_at hl 4 rfl) ?_
        refine s_imul (v := (6 : Int32)) S dX9_placeOf_54 (by decide) ?_
        refine s_iadd (v := (88 : Int32)) S dX9_placeOf_55 (by decide) ?_
        refine lv_iconst (v := (2 : Int32)) S.1 S.2.1 dX9_placeOf_56 (by decide) ?_
        refine s_iadd (v := (90 : Int32)) S dX9_placeOf_57 (by decide) ?_
        refine s_iald S hX G (i := 162) (kd := 284) (n := 270) (a := d) (x := (d 90)) (rfl : sh 162 = 284) e_d rfl (by decide) (by unfold vp_in; decide) (congrArg d (by decide)) dX9_placeOf_58 ?_
        refine lv_icmp_ge (tgt := 66) S.1 S.2.1 dX9_placeOf_59 (by decide) (fun c_6 => ?_) (fun c_6 => ?_)
        · refine lv_iconst (v := (0 : Int32)) S.1 S.2.1 dX9_placeOf_66 (by decide) ?_
          refine s_iadd (v := (((0 : Int32) + pl1M d 70 2 0) + (0 : Int32))) S dX9_placeOf_67 rfl ?_
          refine lv_istore_n (lv' := [(3, .int (((0 : Int32) + pl1M d 70 2 0) + (0 : Int32))), (4, .int (1 : Int32)), (0, .ref (E.2.2.2 161)), (1, .int (1 : Int32)), (2, .int (2 : Int32))]) S.1 S.2.1 dX9_placeOf_68 rfl hl (by decide) rfl (fun ls hl => ?_)
          refine lv_iinc (v := (2 : Int32)) (lv' := [(4, .int (2 : Int32)), (3, .int (((0 : Int32) + pl1M d 70 2 0) + (0 : Int32))), (0, .ref (E.2.2.2 161)), (1, .int (1 : Int32)), (2, .int (2 : Int32))]) S.1 S.2.1 dX9_placeOf_69 hl (k := 1) rfl (by decide) (by decide) rfl (fun ls hl => ?_)
          refine lv_goto (tgt := 5) S.1 S.2.1 dX9_placeOf_72 (by decide) ?_
          exact kJ_4 (((0 : Int32) + pl1M d 70 2 0) + (0 : Int32)) _ _ _ _ _ ⟨(show (((0 : Int32) + pl1M d 70 2 0) + (0 : Int32)) = ((0 : Int32) + pl1M d 70 2 0) + pl1M d 70 2 1 by first | (simp [pl1M, c_5, c_6]; done) | (clear S hX G hl; grind [pl1M])), rfl, rfl⟩ G (lv_sub hl [0, 1, 2, 3, 4] rfl)
        · refine lv_iconst (v := (1 : Int32)) S.1 S.2.1 dX9_placeOf_62 (by decide) ?_
          refine lv_goto (tgt := 67) S.1 S.2.1 dX9_placeOf_63 (by decide) ?_
          refine s_iadd (v := (((0 : Int32) + pl1M d 70 2 0) + (1 : Int32))) S dX9_placeOf_67 rfl ?_
          refine lv_istore_n (lv' := [(3, .int (((0 : Int32) + pl1M d 70 2 0) + (1 : Int32))), (4, .int (1 : Int32)), (0, .ref (E.2.2.2 161)), (1, .int (1 : Int32)), (2, .int (2 : Int32))]) S.1 S.2.1 dX9_placeOf_68 rfl hl (by decide) rfl (fun ls hl => ?_)
          refine lv_iinc (v := (2 : Int32)) (lv' := [(4, .int (2 : Int32)), (3, .int (((0 : Int32) + pl1M d 70 2 0) + (1 : Int32))), (0, .ref (E.2.2.2 161)), (1, .int (1 : Int32)), (2, .int (2 : Int32))]) S.1 S.2.1 dX9_placeOf_69 hl (k := 1) rfl (by decide) (by decide) rfl (fun ls hl => ?_)
          refine lv_goto (tgt := 5) S.1 S.2.1 dX9_placeOf_72 (by decide) ?_
          exact kJ_4 (((0 : Int32) + pl1M d 70 2 0) + (1 : Int32)) _ _ _ _ _ ⟨(show (((0 : Int32) + pl1M d 70 2 0) + (1 : Int32)) = ((0 : Int32) + pl1M d 70 2 0) + pl1M d 70 2 1 by first | (simp [pl1M, c_5, c_6]; done) | (clear S hX G hl; grind [pl1M])), rfl, rfl⟩ G (lv_sub hl [0, 1, 2, 3, 4] rfl)
    · obtain ⟨h0, hI, hL⟩ := hP
      have h0 : x = (((0 : Int32) + pl1M d 70 2 0) + pl1M d 70 2 1) := h0
      have hl : lv_has ls 5 [(4, .int (2 : Int32)), (3, .int x), (0, .ref (E.2.2.2 161)), (1, .int (1 : Int32)), (2, .int (2 : Int32))] := hl
      subst h0
      have G : GS E I L sg H locs := G.same hI hL
      refine W.eq (g2 := F0 mg 5 ls []) rfl ?_
      refine s_cut (α := Int32) (nL := 5) (E := E) (fun x I' L' => x = ((((0 : Int32) + pl1M d 70 2 0) + pl1M d 70 2 1) + pl1M d 70 2 2) ∧ I' = I ∧ L' = L) (fun x => [(4, .int (3 : Int32)), (3, .int x), (0, .ref (E.2.2.2 161)), (1, .int (1 : Int32)), (2, .int (2 : Int32))]) 5 (fun x => []) (fun kJ_7 => ?_) (fun x I1 L1 H locs ls hP G hl => ?_)
      · refine lv_iload S.1 S.2.1 dX9_placeOf_5 (lv_at hl 0 rfl) ?_
        refine lv_iconst (v := (3 : Int32)) S.1 S.2.1 dX9_placeOf_7 (by decide) ?_
        refine lv_icmp_ge (tgt := 75) S.1 S.2.1 dX9_placeOf_8 (by decide) (fun h => absurd h (by decide)) (fun _ => ?_)
        refine lv_iload_n S.1 S.2.1 dX9_placeOf_11 rfl (lv_at hl 1 rfl) ?_
        refine lv_aload_n S.1 S.2.1 dX9_placeOf_12 rfl (lv_at hl 2 rfl) ?_
        refine lv_iload_n S.1 S.2.1 dX9_placeOf_13 rfl (lv_at hl 3 rfl) ?_
        refine lv_iload S.1 S.2.1 dX9_placeOf_14 (lv_at hl 0 rfl) ?_
        refine s_callV (C := RX9) (As := [.int (1 : Int32), .int (2 : Int32)]) (rest := [.int (((0 : Int32) + pl1M d 70 2 0) + pl1M d 70 2 1)]) (i := 161) (kd := 9) S hX G (k_X9_isLatched_1_2 l E d e_d) (cwV (bytes := cX9_isLatched) (maxL := 3) (ret := (some .boolean)) 2 S.2.2.2.2 gX9_placeOf_X9_isLatched rfl rfl rfl (by decide +kernel) ⟨Nat.le_of_ble_eq_true rfl, Nat.le_of_ble_eq_true rfl⟩) (rfl : sh 161 = 9) rfl rfl rfl (by decide) rfl hl.1 rfl (Nat.le_of_ble_eq_true rfl) ⟨Nat.zero_le _, Nat.zero_le _⟩ dX9_placeOf_16 (fun v I1 L1 H locs hR G => ?_)
        obtain ⟨hv, hI, hL⟩ := hR
        subst hv
        have G : GS E I L sg H locs := G.same hI hL
        refine W.eq (g2 := F0 mg 19 ls [.int (if ¬ d 88 = -1 then 1 else 0), .int (((0 : Int32) + pl1M d 70 2 0) + pl1M d 70 2 1)]) rfl ?_
        refine s_if_eq_b (P := ¬ d 88 = -1) (tgt := 66) S dX9_placeOf_19 (by decide) (fun c_8 => ?_) (fun c_8 => ?_)
        · refine lv_iconst (v := (0 : Int32)) S.1 S.2.1 dX9_placeOf_66 (by decide) ?_
          refine s_iadd (v := ((((0 : Int32) + pl1M d 70 2 0) + pl1M d 70 2 1) + (0 : Int32))) S dX9_placeOf_67 rfl ?_
          refine lv_istore_n (lv' := [(3, .int ((((0 : Int32) + pl1M d 70 2 0) + pl1M d 70 2 1) + (0 : Int32))), (4, .int (2 : Int32)), (0, .ref (E.2.2.2 161)), (1, .int (1 : Int32)), (2, .int (2 : Int32))]) S.1 S.2.1 dX9_placeOf_68 rfl hl (by decide) rfl (fun ls hl => ?_)
          refine lv_iinc (v := (3 : Int32)) (lv' := [(4, .int (3 : Int32)), (3, .int ((((0 : Int32) + pl1M d 70 2 0) + pl1M d 70 2 1) + (0 : Int32))), (0, .ref (E.2.2.2 161)), (1, .int (1 : Int32)), (2, .int (2 : Int32))]) S.1 S.2.1 dX9_placeOf_69 hl (k := 1) rfl (by decide) (by decide) rfl (fun ls hl => ?_)
          refine lv_goto (tgt := 5) S.1 S.2.1 dX9_placeOf_72 (by decide) ?_
          exact kJ_7 ((((0 : Int32) + pl1M d 70 2 0) + pl1M d 70 2 1) + (0 : Int32)) _ _ _ _ _ ⟨(show ((((0 : Int32) + pl1M d 70 2 0) + pl1M d 70 2 1) + (0 : Int32)) = (((0 : Int32) + pl1M d 70 2 0) + pl1M d 70 2 1) + pl1M d 70 2 2 by first | (simp [pl1M, c_8]; done) | (clear S hX G hl; grind [pl1M])), rfl, rfl⟩ G (lv_sub hl [0, 1, 2, 3, 4] rfl)
        · refine lv_aload_n S.1 S.2.1 dX9_placeOf_22 rfl (lv_at hl 2 rfl) ?_
          refine s_get S hX G (i := 161) (kd := 9) (a := (I 161)) (v := .ref (E.2.2.2 162)) (C := RX9) (T := TX9) (N := 13) 0 (rfl : sh 161 = 9) rfl rfl rfl (by decide) rfl (fun _ h => (List.mem_cons_of_mem _ (List.mem_append_right _ h))) (by decide) (List.mem_of_getElem? (i := 1) rfl) (fun _ h => h) dX9_placeOf_23 ?_
          refine lv_iload_n S.1 S.2.1 dX9_placeOf_26 rfl (lv_at hl 3 rfl) ?_
          refine s_callS (As := [.int (1 : Int32)]) (rest := [.ref (E.2.2.2 162), .int (((0 : Int32) + pl1M d 70 2 0) + pl1M d 70 2 1)]) S hX G (k_X9_loadAt_1 l E) (va_cwS (bytes := cX9_loadAt) (maxL := 1) (ret := (some .int)) 1 S.2.2.2.2 gX9_placeOf_X9_loadAt rfl rfl rfl (by decide +kernel) ⟨Nat.le_of_ble_eq_true rfl, Nat.le_of_ble_eq_true rfl⟩) rfl hl.1 rfl (Nat.le_of_ble_eq_true rfl) ⟨Nat.zero_le _, Nat.zero_le _⟩ dX9_placeOf_27 (fun v I1 L1 H locs hR G => ?_)
          obtain ⟨hv, hI, hL⟩ := hR
          subst hv
          have G : GS E I L sg H locs := G.same hI hL
          refine W.eq (g2 := F0 mg 30 ls [.int (70 : Int32), .ref (E.2.2.2 162), .int (((0 : Int32) + pl1M d 70 2 0) + pl1M d 70 2 1)]) rfl ?_
          refine lv_bipush (v := (12 : Int32)) S.1 S.2.1 dX9_placeOf_30 (by decide) ?_
          refine s_iadd (v := (82 : Int32)) S dX9_placeOf_32 (by decide) ?_
          refine lv_iconst (v := (3 : Int32)) S.1 S.2.1 dX9_placeOf_33 (by decide) ?_
          refine lv_iload S.1 S.2.1 dX9_placeOf_34 (lv_at hl 0 rfl) ?_
          refine s_imul (v := (6 : Int32)) S dX9_placeOf_36 (by decide) ?_
          refine s_iadd (v := (88 : Int32)) S dX9_placeOf_37 (by decide) ?_
          refine lv_iconst (v := (2 : Int32)) S.1 S.2.1 dX9_placeOf_38 (by decide) ?_
          refine s_iadd (v := (90 : Int32)) S dX9_placeOf_39 (by decide) ?_
          refine s_iald S hX G (i := 162) (kd := 284) (n := 270) (a := d) (x := (d 90)) (rfl : sh 162 = 284) e_d rfl (by decide) (by unfold vp_in; decide) (congrArg d (by decide)) dX9_placeOf_40 ?_
          refine lv_aload_n S.1 S.2.1 dX9_placeOf_41 rfl (lv_at hl 2 rfl) ?_
          refine s_get S hX G (i := 161) (kd := 9) (a := (I 161)) (v := .ref (E.2.2.2 162)) (C := RX9) (T := TX9) (N := 13) 0 (rfl : sh 161 = 9) rfl rfl rfl (by decide) rfl (fun _ h => (List.mem_cons_of_mem _ (List.mem_append_right _ h))) (by decide) (List.mem_of_getElem? (i := 1) rfl) (fun _ h => h) dX9_placeOf_42 ?_
          refine lv_iload_n S.1 S.2.1 dX9_placeOf_45 rfl (lv_at hl 3 rfl) ?_
          refine s_callS (As := [.int (1 : Int32)]) (rest := [.ref (E.2.2.2 162), .int (d 90), .int (((0 : Int32) + pl1M d 70 2 0) + pl1M d 70 2 1)]) S hX G (k_X9_loadAt_1 l E) (va_cwS (bytes := cX9_loadAt) (maxL := 1) (ret := (some .int)) 1 S.2.2.2.2 gX9_placeOf_X9_loadAt rfl rfl rfl (by decide +kernel) ⟨Nat.le_of_ble_eq_true rfl, Nat.le_of_ble_eq_true rfl⟩) rfl hl.1 rfl (Nat.le_of_ble_eq_true rfl) ⟨Nat.zero_le _, Nat.zero_le _⟩ dX9_placeOf_46 (fun v I1 L1 H locs hR G => ?_)
          obtain ⟨hv, hI, hL⟩ := hR
          subst hv
          have G : GS E I L sg H locs := G.same hI hL
          refine W.eq (g2 := F0 mg 49 ls [.int (70 : Int32), .ref (E.2.2.2 162), .int (d 90), .int (((0 : Int32) + pl1M d 70 2 0) + pl1M d 70 2 1)]) rfl ?_
          refine lv_bipush (v := (12 : Int32)) S.1 S.2.1 dX9_placeOf_49 (by decide) ?_
          refine s_iadd (v := (82 : Int32)) S dX9_placeOf_51 (by decide) ?_
          refine lv_iconst (v := (3 : Int32)) S.1 S.2.1 dX9_placeOf_52 (by decide) ?_
          refine lv_iload_n S.1 S.2.1 dX9_placeOf_53 rfl (lv_at hl 4 rfl) ?_
          refine s_imul (v := (6 : Int32)) S dX9_placeOf_54 (by decide) ?_
          refine s_iadd (v := (88 : Int32)) S dX9_placeOf_55 (by decide) ?_
          refine lv_iconst (v := (2 : Int32)) S.1 S.2.1 dX9_placeOf_56 (by decide) ?_
          refine s_iadd (v := (90 : Int32)) S dX9_placeOf_57 (by decide) ?_
          refine s_iald S hX G (i := 162) (kd := 284) (n := 270) (a := d) (x := (d 90)) (rfl : sh 162 = 284) e_d rfl (by decide) (by unfold vp_in; decide) (congrArg d (by decide)) dX9_placeOf_58 ?_
          refine lv_icmp_ge (tgt := 66) S.1 S.2.1 dX9_placeOf_59 (by decide) (fun c_9 => ?_) (fun c_9 => ?_)
          · refine lv_iconst (v := (0 : Int32)) S.1 S.2.1 dX9_placeOf_66 (by decide) ?_
            refine s_iadd (v := ((((0 : Int32) + pl1M d 70 2 0) + pl1M d 70 2 1) + (0 : Int32))) S dX9_placeOf_67 rfl ?_
            refine lv_istore_n (lv' := [(3, .int ((((0 : Int32) + pl1M d 70 2 0) + pl1M d 70 2 1) + (0 : Int32))), (4, .int (2 : Int32)), (0, .ref (E.2.2.2 161)), (1, .int (1 : Int32)), (2, .int (2 : Int32))]) S.1 S.2.1 dX9_placeOf_68 rfl hl (by decide) rfl (fun ls hl => ?_)
            refine lv_iinc (v := (3 : Int32)) (lv' := [(4, .int (3 : Int32)), (3, .int ((((0 : Int32) + pl1M d 70 2 0) + pl1M d 70 2 1) + (0 : Int32))), (0, .ref (E.2.2.2 161)), (1, .int (1 : Int32)), (2, .int (2 : Int32))]) S.1 S.2.1 dX9_placeOf_69 hl (k := 1) rfl (by decide) (by decide) rfl (fun ls hl => ?_)
            refine lv_goto (tgt := 5) S.1 S.2.1 dX9_placeOf_72 (by decide) ?_
            exact kJ_7 ((((0 : Int32) + pl1M d 70 2 0) + pl1M d 70 2 1) + (0 : Int32)) _ _ _ _ _ ⟨(show ((((0 : Int32) + pl1M d 70 2 0) + pl1M d 70 2 1) + (0 : Int32)) = (((0 : Int32) + pl1M d 70 2 0) + pl1M d 70 2 1) + pl1M d 70 2 2 by first | (simp [pl1M, c_8, c_9]; done) | (clear S hX G hl; grind [pl1M])), rfl, rfl⟩ G (lv_sub hl [0, 1, 2, 3, 4] rfl)
          · refine lv_iconst (v := (1 : Int32)) S.1 S.2.1 dX9_placeOf_62 (by decide) ?_
            refine lv_goto (tgt := 67) S.1 S.2.1 dX9_placeOf_63 (by decide) ?_
            refine s_iadd (v := ((((0 : Int32) + pl1M d 70 2 0) + pl1M d 70 2 1) + (1 : Int32))) S dX9_placeOf_67 rfl ?_
            refine lv_istore_n (lv' := [(3, .int ((((0 : Int32) + pl1M d 70 2 0) + pl1M d 70 2 1) + (1 : Int32))), (4, .int (2 : Int32)), (0, .ref (E.2.2.2 161)), (1, .int (1 : Int32)), (2, .int (2 : Int32))]) S.1 S.2.1 dX9_placeOf_68 rfl hl (by decide) rfl (fun ls hl => ?_)
            refine lv_iinc (v := (3 : Int32)) (lv' := [(4, .int (3 : Int32)), (3, .int ((((0 : Int32) + pl1M d 70 2 0) + pl1M d 70 2 1) + (1 : Int32))), (0, .ref (E.2.2.2 161)), (1, .int (1 : Int32)), (2, .int (2 : Int32))]) S.1 S.2.1 dX9_placeOf_69 hl (k := 1) rfl (by decide) (by decide) rfl (fun ls hl => ?_)
            refine lv_goto (tgt := 5) S.1 S.2.1 dX9_placeOf_72 (by decide) ?_
            exact kJ_7 ((((0 : Int32) + pl1M d 70 2 0) + pl1M d 70 2 1) + (1 : Int32)) _ _ _ _ _ ⟨(show ((((0 : Int32) + pl1M d 70 2 0) + pl1M d 70 2 1) + (1 : Int32)) = (((0 : Int32) + pl1M d 70 2 0) + pl1M d 70 2 1) + pl1M d 70 2 2 by first | (simp [pl1M, c_8, c_9]; done) | (clear S hX G hl; grind [pl1M])), rfl, rfl⟩ G (lv_sub hl [0, 1, 2, 3, 4] rfl)
      · obtain ⟨h0, hI, hL⟩ := hP
        have h0 : x = ((((0 : Int32) + pl1M d 70 2 0) + pl1M d 70 2 1) + pl1M d 70 2 2) := h0
        have hl : lv_has ls 5 [(4, .int (3 : Int32)), (3, .int x), (0, .ref (E.2.2.2 161)), (1, .int (1 : Int32)), (2, .int (2 : Int32))] := hl
        subst h0
        have G : GS E I L sg H locs := G.same hI hL
        refine W.eq (g2 := F0 mg 5 ls []) rfl ?_
        refine lv_iload S.1 S.2.1 dX9_placeOf_5 (lv_at hl 0 rfl) ?_
        refine lv_iconst (v := (3 : Int32)) S.1 S.2.1 dX9_placeOf_7 (by decide) ?_
        refine lv_icmp_ge (tgt := 75) S.1 S.2.1 dX9_placeOf_8 (by decide) (fun _ => ?_) (fun h => absurd (by decide) h)
        refine lv_iload_n S.1 S.2.1 dX9_placeOf_75 rfl (lv_at hl 1 rfl) ?_
        refine s_iret (x := ((((0 : Int32) + pl1M d 70 2 0) + pl1M d 70 2 1) + pl1M d 70 2 2)) S G hr hlk dX9_placeOf_76 ?_
        exact ⟨(congrArg (fun q : Int32 => some (Value.int q)) (show ((((0 : Int32) + pl1M d 70 2 0) + pl1M d 70 2 1) + pl1M d 70 2 2) = (plcM d 70 2) by rfl)), rfl, rfl⟩
set_option maxHeartbeats 4000000 in
set_option maxRecDepth 100000 in
theorem k_X9_canClear_1_2 (l : Launch) (E : Ev) {I : SI} {L : SL} (d : Nat → Int32) (e_d : I (162) = d) : CS l yX9_canClear wsX9_canClear ({ frames := 3, cells := 0, slots := 0, locals := 66 }) E [.ref (E.2.2.2 161), .int (1 : Int32), .int (2 : Int32)] I L (fun vv I' L' => vv = some (.int (if ¬ d 88 = -1 ∧ ¬ ¬ plcM d 70 2 ≤ 0 ∧ ¬ d 5 / 2 < d 75 then 1 else 0)) ∧ I' = I ∧ L' = L) := by
  refine CS.of (cc := cX9_canClear) (maxL := 3) (ret := (some .boolean)) (by decide) rfl (Nat.le_of_ble_eq_true rfl) ?_
  intro pg en sg mg below meth cg ls S hr hlk hX G hl
  have S : CallFix pg mg cg cX9_canClear 3 sg _ wsX9_canClear RX9 := S
  have hl : lv_has ls 3 [(0, .ref (E.2.2.2 161)), (1, .int (1 : Int32)), (2, .int (2 : Int32))] := hl
  refine lv_aload_n S.1 S.2.1 dX9_canClear_0 rfl (lv_at hl 0 rfl) ?_
  refine lv_iload_n S.1 S.2.1 dX9_canClear_1 rfl (lv_at hl 1 rfl) ?_
  refine lv_iload_n S.1 S.2.1 dX9_canClear_2 rfl (lv_at hl 2 rfl) ?_
  refine s_callV (C := RX9) (As := [.int (1 : Int32), .int (2 : Int32)]) (rest := []) (i := 161) (kd := 9) S hX G (k_X9_isLatched_1_2 l E d e_d) (cwV (bytes := cX9_isLatched) (maxL := 3) (ret := (some .boolean)) 2 S.2.2.2.2 gX9_canClear_X9_isLatched rfl rfl rfl (by decide +kernel) ⟨Nat.le_of_ble_eq_true rfl, Nat.le_of_ble_eq_true rfl⟩) (rfl : sh 161 = 9) rfl rfl rfl (by decide) rfl hl.1 rfl (Nat.le_of_ble_eq_true rfl) ⟨Nat.zero_le _, Nat.zero_le _⟩ dX9_canClear_3 (fun v I1 L1 H locs hR G => ?_)
  obtain ⟨hv, hI, hL⟩ := hR
  subst hv
  have G : GS E I L sg H locs := G.same hI hL
  refine W.eq (g2 := F0 mg 6 ls [.int (if ¬ d 88 = -1 then 1 else 0)]) rfl ?_
  refine s_if_eq_b (P := ¬ d 88 = -1) (tgt := 18) S dX9_canClear_6 (by decide) (fun c_1 => ?_) (fun c_1 => ?_)
  · refine lv_iconst (v := (0 : Int32)) S.1 S.2.1 dX9_canClear_18 (by decide) ?_
    refine s_zret (x := (0 : Int32)) S G hr hlk dX9_canClear_19 (Or.inl rfl) ?_
    exact ⟨(congrArg (fun q : Int32 => some (Value.int q)) (show (0 : Int32) = (if ¬ d 88 = -1 ∧ ¬ ¬ plcM d 70 2 ≤ 0 ∧ ¬ d 5 / 2 < d 75 then 1 else 0) by first | (simp [c_1]; done) | (clear S hX G hl; grind))), rfl, rfl⟩
  · refine lv_aload_n S.1 S.2.1 dX9_canClear_9 rfl (lv_at hl 0 rfl) ?_
    refine lv_iload_n S.1 S.2.1 dX9_canClear_10 rfl (lv_at hl 1 rfl) ?_
    refine lv_iload_n S.1 S.2.1 dX9_canClear_11 rfl (lv_at hl 2 rfl) ?_
    refine s_callV (C := RX9) (As := [.int (1 : Int32), .int (2 : Int32)]) (rest := []) (i := 161) (kd := 9) S hX G (k_X9_placeOf_1_2 l E d e_d) (cwV (bytes := cX9_placeOf) (maxL := 5) (ret := (some .int)) 2 S.2.2.2.2 gX9_canClear_X9_placeOf rfl rfl rfl (by decide +kernel) ⟨Nat.le_of_ble_eq_true rfl, Nat.le_of_ble_eq_true rfl⟩) (rfl : sh 161 = 9) rfl rfl rfl (by decide) rfl hl.1 rfl (Nat.le_of_ble_eq_true rfl) ⟨Nat.zero_le _, Nat.zero_le _⟩ dX9_canClear_12 (fun v I1 L1 H locs hR G => ?_)
    obtain ⟨hv, hI, hL⟩ := hR
    subst hv
    have G : GS E I L sg H locs := G.same hI hL
    refine W.eq (g2 := F0 mg 15 ls [.int (plcM d 70 2)]) rfl ?_
    refine lv_topi (fun y_2 ey_2 => ?_)
    refine lv_if_le (tgt := 20) S.1 S.2.1 dX9_canClear_15 (by decide) (fun c_3 => ?_) (fun c_3 => ?_)
    · refine lv_iload_n S.1 S.2.1 dX9_canClear_20 rfl (lv_at hl 2 rfl) ?_
      refine lv_if_ne (tgt := 46) S.1 S.2.1 dX9_canClear_21 (by decide) (fun _ => ?_) (fun h => absurd h (by decide))
      refine lv_iload_n S.1 S.2.1 dX9_canClear_46 rfl (lv_at hl 2 rfl) ?_
      refine lv_iconst (v := (1 : Int32)) S.1 S.2.1 dX9_canClear_47 (by decide) ?_
      refine lv_icmp_eq (tgt := 73) S.1 S.2.1 dX9_canClear_48 (by decide) (fun h => absurd h (by decide)) (fun _ => ?_)
      refine lv_aload_n S.1 S.2.1 dX9_canClear_51 rfl (lv_at hl 0 rfl) ?_
      refine s_get S hX G (i := 161) (kd := 9) (a := (I 161)) (v := .ref (E.2.2.2 162)) (C := RX9) (T := TX9) (N := 13) 0 (rfl : sh 161 = 9) rfl rfl rfl (by decide) rfl (fun _ h => (List.mem_cons_of_mem _ (List.mem_append_right _ h))) (by decide) (List.mem_of_getElem? (i := 1) rfl) (fun _ h => h) dX9_canClear_52 ?_
      refine lv_iload_n S.1 S.2.1 dX9_canClear_55 rfl (lv_at hl 1 rfl) ?_
      refine s_callS (As := [.int (1 : Int32)]) (rest := [.ref (E.2.2.2 162)]) S hX G (k_X9_loadAt_1 l E) (va_cwS (bytes := cX9_loadAt) (maxL := 1) (ret := (some .int)) 1 S.2.2.2.2 gX9_canClear_X9_loadAt rfl rfl rfl (by decide +kernel) ⟨Nat.le_of_ble_eq_true rfl, Nat.le_of_ble_eq_true rfl⟩) rfl hl.1 rfl (Nat.le_of_ble_eq_true rfl) ⟨Nat.zero_le _, Nat.zero_le _⟩ dX9_canClear_56 (fun v I1 L1 H locs hR G => ?_)
      obtain ⟨hv, hI, hL⟩ := hR
      subst hv
      have G : GS E I L sg H locs := G.same hI hL
      refine W.eq (g2 := F0 mg 59 ls [.int (70 : Int32), .ref (E.2.2.2 162)]) rfl ?_
      refine lv_iconst (v := (5 : Int32)) S.1 S.2.1 dX9_canClear_59 (by decide) ?_
      refine s_iadd (v := (75 : Int32)) S dX9_canClear_60 (by decide) ?_
      refine s_iald S hX G (i := 162) (kd := 284) (n := 270) (a := d) (x := (d 75)) (rfl : sh 162 = 284) e_d rfl (by decide) (by unfold vp_in; decide) (congrArg d (by decide)) dX9_canClear_61 ?_
      refine lv_aload_n S.1 S.2.1 dX9_canClear_62 rfl (lv_at hl 0 rfl) ?_
      refine s_get S hX G (i := 161) (kd := 9) (a := (I 161)) (v := .ref (E.2.2.2 162)) (C := RX9) (T := TX9) (N := 13) 0 (rfl : sh 161 = 9) rfl rfl rfl (by decide) rfl (fun _ h => (List.mem_cons_of_mem _ (List.mem_append_right _ h))) (by decide) (List.mem_of_getElem? (i := 1) rfl) (fun _ h => h) dX9_canClear_63 ?_
      refine lv_iconst (v := (5 : Int32)) S.1 S.2.1 dX9_canClear_66 (by decide) ?_
      refine s_iald S hX G (i := 162) (kd := 284) (n := 270) (a := d) (x := (d 5)) (rfl : sh 162 = 284) e_d rfl (by decide) (by unfold vp_in; decide) (congrArg d (by decide)) dX9_canClear_67 ?_
      refine lv_iconst (v := (2 : Int32)) S.1 S.2.1 dX9_canClear_68 (by decide) ?_
      refine s_idiv (v := ((d 5) / (2 : Int32))) S dX9_canClear_69 (by decide) rfl ?_
      refine lv_icmp_gt (tgt := 77) S.1 S.2.1 dX9_canClear_70 (by decide) (fun c_4 => ?_) (fun c_4 => ?_)
      · refine lv_iconst (v := (0 : Int32)) S.1 S.2.1 dX9_canClear_77 (by decide) ?_
        refine s_zret (x := (0 : Int32)) S G hr hlk dX9_canClear_78 (Or.inl rfl) ?_
        exact ⟨(congrArg (fun q : Int32 => some (Value.int q)) (show (0 : Int32) = (if ¬ d 88 = -1 ∧ ¬ ¬ plcM d 70 2 ≤ 0 ∧ ¬ d 5 / 2 < d 75 then 1 else 0) by subst ey_2; (first | (simp [c_1, c_3, c_4]; done) | (clear S hX G hl; grind)))), rfl, rfl⟩
      · refine lv_iconst (v := (1 : Int32)) S.1 S.2.1 dX9_canClear_73 (by decide) ?_
        refine lv_goto (tgt := 78) S.1 S.2.1 dX9_canClear_74 (by decide) ?_
        refine s_zret (x := (1 : Int32)) S G hr hlk dX9_canClear_78 (Or.inr rfl) ?_
        exact ⟨(congrArg (fun q : Int32 => some (Value.int q)) (show (1 : Int32) = (if ¬ d 88 = -1 ∧ ¬ ¬ plcM d 70 2 ≤ 0 ∧ ¬ d 5 / 2 < d 75 then 1 else 0) by subst ey_2; (first | (simp [c_1, c_3, c_4]; done) | (clear S hX G hl; grind)))), rfl, rfl⟩
    · refine lv_iconst (v := (0 : Int32)) S.1 S.2.1 dX9_canClear_18 (by decide) ?_
      refine s_zret (x := (0 : Int32)) S G hr hlk dX9_canClear_19 (Or.inl rfl) ?_
      exact ⟨(congrArg (fun q : Int32 => some (Value.int q)) (show (0 : Int32) = (if ¬ d 88 = -1 ∧ ¬ ¬ plcM d 70 2 ≤ 0 ∧ ¬ d 5 / 2 < d 75 then 1 else 0) by subst ey_2; (first | (simp [c_1, c_3]; done) | (clear S hX G hl; grind)))), rfl, rfl⟩
