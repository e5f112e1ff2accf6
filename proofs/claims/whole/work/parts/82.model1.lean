set_option maxHeartbeats 4000000 in
set_option maxRecDepth 100000 in
theorem k_X9_in (l : Launch) (E : Ev) {I : SI} {L : SL} (v : Int64) (low : Int64) (high : Int64) : CS l yX9_in wsX9_in ({ frames := 0, cells := 0, slots := 0, locals := 0 }) E [.long v, .long low, .long high] I L (fun vv I' L' => vv = some (.int (if ¬ v < low ∧ ¬ high < v then 1 else 0)) ∧ I' = I ∧ L' = L) := by
  refine CS.of (cc := cX9_in) (maxL := 6) (ret := (some .boolean)) (by decide) rfl (Nat.le_of_ble_eq_true rfl) ?_
  intro pg en sg mg below meth cg ls S hr hlk hX G hl
  have S : CallFix pg mg cg cX9_in 6 sg _ wsX9_in RX9 := S
  have hl : lv_has ls 6 [(0, .long v), (2, .long low), (4, .long high)] := hl
  refine lv_lload_n S.1 S.2.1 dX9_in_0 rfl (lv_at hl 0 rfl) ?_
  refine lv_lload_n S.1 S.2.1 dX9_in_1 rfl (lv_at hl 1 rfl) ?_
  refine W.lcmp S.1 S.2.1 dX9_in_2 ?_
  refine s_if_lt_c (tgt := 17) S dX9_in_3 (by decide) (fun c_1 => ?_) (fun c_1 => ?_)
  · refine lv_iconst (v := (0 : Int32)) S.1 S.2.1 dX9_in_17 (by decide) ?_
    refine s_zret (x := (0 : Int32)) S G hr hlk dX9_in_18 (Or.inl rfl) ?_
    exact ⟨(congrArg (fun q : Int32 => some (Value.int q)) (show (0 : Int32) = (if ¬ v < low ∧ ¬ high < v then 1 else 0) by first | (simp [c_1]; done) | (clear S hX G hl; grind []))), rfl, rfl⟩
  · refine lv_lload_n S.1 S.2.1 dX9_in_6 rfl (lv_at hl 0 rfl) ?_
    refine lv_lload S.1 S.2.1 dX9_in_7 (lv_at hl 2 rfl) ?_
    refine W.lcmp S.1 S.2.1 dX9_in_9 ?_
    refine s_if_gt_c (tgt := 17) S dX9_in_10 (by decide) (fun c_2 => ?_) (fun c_2 => ?_)
    · refine lv_iconst (v := (0 : Int32)) S.1 S.2.1 dX9_in_17 (by decide) ?_
      refine s_zret (x := (0 : Int32)) S G hr hlk dX9_in_18 (Or.inl rfl) ?_
      exact ⟨(congrArg (fun q : Int32 => some (Value.int q)) (show (0 : Int32) = (if ¬ v < low ∧ ¬ high < v then 1 else 0) by first | (simp [c_1, c_2]; done) | (clear S hX G hl; grind []))), rfl, rfl⟩
    · refine lv_iconst (v := (1 : Int32)) S.1 S.2.1 dX9_in_13 (by decide) ?_
      refine lv_goto (tgt := 18) S.1 S.2.1 dX9_in_14 (by decide) ?_
      refine s_zret (x := (1 : Int32)) S G hr hlk dX9_in_18 (Or.inr rfl) ?_
      exact ⟨(congrArg (fun q : Int32 => some (Value.int q)) (show (1 : Int32) = (if ¬ v < low ∧ ¬ high < v then 1 else 0) by first | (simp [c_1, c_2]; done) | (clear S hX G hl; grind []))), rfl, rfl⟩
theorem ite_z {P : Prop} [Decidable P] (h : ¬ P) (x : Int32) : x + 0 = x + (if P then 1 else 0) := by rw [if_neg h]
theorem ite_z0 {P : Prop} [Decidable P] (h : ¬ P) : (0 : Int32) = 0 + (if P then 1 else 0) := by rw [if_neg h]; rfl
theorem i64_lt (x y : Int32) : (Int32.toInt64 x < Int32.toInt64 y) ↔ x < y := by
  rw [Int64.lt_iff_toInt_lt, Int32.lt_iff_toInt_lt, Int32.toInt_toInt64, Int32.toInt_toInt64]
theorem i64_c0 : (0 : Int64) = Int32.toInt64 0 := by decide
theorem i64_c1 : (1 : Int64) = Int32.toInt64 1 := by decide
theorem i64_c3 : (3 : Int64) = Int32.toInt64 3 := by decide
set_option maxHeartbeats 4000000 in
set_option maxRecDepth 100000 in
theorem k_X9_isLeg (l : Launch) (E : Ev) {I : SI} {L : SL} (leg : Int32) : CS l yX9_isLeg wsX9_isLeg ({ frames := 1, cells := 0, slots := 0, locals := 25 }) E [.int leg] I L (fun vv I' L' => vv = some (.int (if ¬ leg < (0 : Int32) ∧ ¬ (3 : Int32) < leg then 1 else 0)) ∧ I' = I ∧ L' = L) := by
  refine CS.of (cc := cX9_isLeg) (maxL := 1) (ret := (some .boolean)) (by decide) rfl (Nat.le_of_ble_eq_true rfl) ?_
  intro pg en sg mg below meth cg ls S hr hlk hX G hl
  have S : CallFix pg mg cg cX9_isLeg 1 sg _ wsX9_isLeg RX9 := S
  have hl : lv_has ls 1 [(0, .int leg)] := hl
  refine lv_iload_n S.1 S.2.1 dX9_isLeg_0 rfl (lv_at hl 0 rfl) ?_
  refine lv_i2l (v := (Int32.toInt64 leg)) S.1 S.2.1 dX9_isLeg_1 rfl ?_
  refine lv_lconst (v := (0 : Int64)) S.1 S.2.1 dX9_isLeg_2 (by decide) ?_
  refine lv_ldc2 (v := (3 : Int64)) S.1 S.2.1 S.2.2.2.1 (S.2.2.2.2 _ (List.mem_of_getElem? (i := 1) rfl)) dX9_isLeg_3 ?_
  refine s_callS (As := [.long (Int32.toInt64 leg), .long (0 : Int64), .long (3 : Int64)]) (rest := []) S hX G (k_X9_in l E (Int32.toInt64 leg) (0 : Int64) (3 : Int64)) (va_cwS (bytes := cX9_in) (maxL := 6) (ret := (some .boolean)) 3 S.2.2.2.2 gX9_isLeg_X9_in rfl rfl rfl (by decide +kernel) ⟨Nat.le_of_ble_eq_true rfl, Nat.le_of_ble_eq_true rfl⟩) rfl hl.1 rfl (Nat.le_of_ble_eq_true rfl) ⟨Nat.zero_le _, Nat.zero_le _⟩ dX9_isLeg_6 (fun v I1 L1 H locs hR G => ?_)
  obtain ⟨hv, hI, hL⟩ := hR
  subst hv
  have G : GS E I L sg H locs := G.same hI hL
  refine W.eq (g2 := F0 mg 9 ls [.int (if ¬ (Int32.toInt64 leg) < (0 : Int64) ∧ ¬ (3 : Int64) < (Int32.toInt64 leg) then 1 else 0)]) rfl ?_
  refine s_zret (x := (if ¬ (Int32.toInt64 leg) < (0 : Int64) ∧ ¬ (3 : Int64) < (Int32.toInt64 leg) then 1 else 0)) S G hr hlk dX9_isLeg_9 isb_ite ?_
  exact ⟨(congrArg (fun q : Int32 => some (Value.int q)) (show (if ¬ (Int32.toInt64 leg) < (0 : Int64) ∧ ¬ (3 : Int64) < (Int32.toInt64 leg) then 1 else 0) = (if ¬ leg < (0 : Int32) ∧ ¬ (3 : Int32) < leg then 1 else 0) by simp only [i64_c0, i64_c1, i64_c3, i64_lt])), rfl, rfl⟩
set_option maxHeartbeats 4000000 in
set_option maxRecDepth 100000 in
theorem k_X9_isLoad (l : Launch) (E : Ev) {I : SI} {L : SL} (load : Int32) : CS l yX9_isLoad wsX9_isLoad ({ frames := 1, cells := 0, slots := 0, locals := 25 }) E [.int load] I L (fun vv I' L' => vv = some (.int (if ¬ load < (0 : Int32) ∧ ¬ (1 : Int32) < load then 1 else 0)) ∧ I' = I ∧ L' = L) := by
  refine CS.of (cc := cX9_isLoad) (maxL := 1) (ret := (some .boolean)) (by decide) rfl (Nat.le_of_ble_eq_true rfl) ?_
  intro pg en sg mg below meth cg ls S hr hlk hX G hl
  have S : CallFix pg mg cg cX9_isLoad 1 sg _ wsX9_isLoad RX9 := S
  have hl : lv_has ls 1 [(0, .int load)] := hl
  refine lv_iload_n S.1 S.2.1 dX9_isLoad_0 rfl (lv_at hl 0 rfl) ?_
  refine lv_i2l (v := (Int32.toInt64 load)) S.1 S.2.1 dX9_isLoad_1 rfl ?_
  refine lv_lconst (v := (0 : Int64)) S.1 S.2.1 dX9_isLoad_2 (by decide) ?_
  refine lv_lconst (v := (1 : Int64)) S.1 S.2.1 dX9_isLoad_3 (by decide) ?_
  refine s_callS (As := [.long (Int32.toInt64 load), .long (0 : Int64), .long (1 : Int64)]) (rest := []) S hX G (k_X9_in l E (Int32.toInt64 load) (0 : Int64) (1 : Int64)) (va_cwS (bytes := cX9_in) (maxL := 6) (ret := (some .boolean)) 3 S.2.2.2.2 gX9_isLoad_X9_in rfl rfl rfl (by decide +kernel) ⟨Nat.le_of_ble_eq_true rfl, Nat.le_of_ble_eq_true rfl⟩) rfl hl.1 rfl (Nat.le_of_ble_eq_true rfl) ⟨Nat.zero_le _, Nat.zero_le _⟩ dX9_isLoad_4 (fun v I1 L1 H locs hR G => ?_)
  obtain ⟨hv, hI, hL⟩ := hR
  subst hv
  have G : GS E I L sg H locs := G.same hI hL
  refine W.eq (g2 := F0 mg 7 ls [.int (if ¬ (Int32.toInt64 load) < (0 : Int64) ∧ ¬ (1 : Int64) < (Int32.toInt64 load) then 1 else 0)]) rfl ?_
  refine s_zret (x := (if ¬ (Int32.toInt64 load) < (0 : Int64) ∧ ¬ (1 : Int64) < (Int32.toInt64 load) then 1 else 0)) S G hr hlk dX9_isLoad_7 isb_ite ?_
  exact ⟨(congrArg (fun q : Int32 => some (Value.int q)) (show (if ¬ (Int32.toInt64 load) < (0 : Int64) ∧ ¬ (1 : Int64) < (Int32.toInt64 load) then 1 else 0) = (if ¬ load < (0 : Int32) ∧ ¬ (1 : Int32) < load then 1 else 0) by simp only [i64_c0, i64_c1, i64_c3, i64_lt])), rfl, rfl⟩
set_option maxHeartbeats 4000000 in
set_option maxRecDepth 100000 in
theorem k_X9_legAt_0 (l : Launch) (E : Ev) {I : SI} {L : SL} : CS l yX9_legAt wsX9_legAt ({ frames := 0, cells := 0, slots := 0, locals := 0 }) E [.int (0 : Int32)] I L (fun vv I' L' => vv = some (.int (8 : Int32)) ∧ I' = I ∧ L' = L) := by
  refine CS.of (cc := cX9_legAt) (maxL := 1) (ret := (some .int)) (by decide) rfl (Nat.le_of_ble_eq_true rfl) ?_
  intro pg en sg mg below meth cg ls S hr hlk hX G hl
  have S : CallFix pg mg cg cX9_legAt 1 sg _ wsX9_legAt RX9 := S
  have hl : lv_has ls 1 [(0, .int (0 : Int32))] := hl
  refine lv_bipush (v := (8 : Int32)) S.1 S.2.1 dX9_legAt_0 (by decide) ?_
  refine lv_bipush (v := (8 : Int32)) S.1 S.2.1 dX9_legAt_2 (by decide) ?_
  refine lv_iload_n S.1 S.2.1 dX9_legAt_4 rfl (lv_at hl 0 rfl) ?_
  refine s_imul (v := (0 : Int32)) S dX9_legAt_5 (by decide) ?_
  refine s_iadd (v := (8 : Int32)) S dX9_legAt_6 (by decide) ?_
  refine s_iret (x := (8 : Int32)) S G hr hlk dX9_legAt_7 ?_
  exact ⟨rfl, rfl, rfl⟩
set_option maxHeartbeats 4000000 in
set_option maxRecDepth 100000 in
theorem k_X9_legAt_1 (l : Launch) (E : Ev) {I : SI} {L : SL} : CS l yX9_legAt wsX9_legAt ({ frames := 0, cells := 0, slots := 0, locals := 0 }) E [.int (1 : Int32)] I L (fun vv I' L' => vv = some (.int (16 : Int32)) ∧ I' = I ∧ L' = L) := by
  refine CS.of (cc := cX9_legAt) (maxL := 1) (ret := (some .int)) (by decide) rfl (Nat.le_of_ble_eq_true rfl) ?_
  intro pg en sg mg below meth cg ls S hr hlk hX G hl
  have S : CallFix pg mg cg cX9_legAt 1 sg _ wsX9_legAt RX9 := S
  have hl : lv_has ls 1 [(0, .int (1 : Int32))] := hl
  refine lv_bipush (v := (8 : Int32)) S.1 S.2.1 dX9_legAt_0 (by decide) ?_
  refine lv_bipush (v := (8 : Int32)) S.1 S.2.1 dX9_legAt_2 (by decide) ?_
  refine lv_iload_n S.1 S.2.1 dX9_legAt_4 rfl (lv_at hl 0 rfl) ?_
  refine s_imul (v := (8 : Int32)) S dX9_legAt_5 (by decide) ?_
  refine s_iadd (v := (16 : Int32)) S dX9_legAt_6 (by decide) ?_
  refine s_iret (x := (16 : Int32)) S G hr hlk dX9_legAt_7 ?_
  exact ⟨rfl, rfl, rfl⟩
set_option maxHeartbeats 4000000 in
set_option maxRecDepth 100000 in
theorem k_X9_legAt_2 (l : Launch) (E : Ev) {I : SI} {L : SL} : CS l yX9_legAt wsX9_legAt ({ frames := 0, cells := 0, slots := 0, locals := 0 }) E [.int (2 : Int32)] I L (fun vv I' L' => vv = some (.int (24 : Int32)) ∧ I' = I ∧ L' = L) := by
  refine CS.of (cc := cX9_legAt) (maxL := 1) (ret := (some .int)) (by decide) rfl (Nat.le_of_ble_eq_true rfl) ?_
  intro pg en sg mg below meth cg ls S hr hlk hX G hl
  have S : CallFix pg mg cg cX9_legAt 1 sg _ wsX9_legAt RX9 := S
  have hl : lv_has ls 1 [(0, .int (2 : Int32))] := hl
  refine lv_bipush (v := (8 : Int32)) S.1 S.2.1 dX9_legAt_0 (by decide) ?_
  refine lv_bipush (v := (8 : Int32)) S.1 S.2.1 dX9_legAt_2 (by decide) ?_
  refine lv_iload_n S.1 S.2.1 dX9_legAt_4 rfl (lv_at hl 0 rfl) ?_
  refine s_imul (v := (16 : Int32)) S dX9_legAt_5 (by decide) ?_
  refine s_iadd (v := (24 : Int32)) S dX9_legAt_6 (by decide) ?_
  refine s_iret (x := (24 : Int32)) S G hr hlk dX9_legAt_7 ?_
  exact ⟨rfl, rfl, rfl⟩
set_option maxHeartbeats 4000000 in
set_option maxRecDepth 100000 in
theorem k_X9_legAt_3 (l : Launch) (E : Ev) {I : SI} {L : SL} : CS l yX9_legAt wsX9_legAt ({ frames := 0, cells := 0, slots := 0, locals := 0 }) E [.int (3 : Int32)] I L (fun vv I' L' => vv = some (.int (32 : Int32)) ∧ I' = I ∧ L' = L) := by
  refine CS.of (cc := cX9_legAt) (maxL := 1) (ret := (some .int)) (by decide) rfl (Nat.le_of_ble_eq_true rfl) ?_
  intro pg en sg mg below meth cg ls S hr hlk hX G hl
  have S : CallFix pg mg cg cX9_legAt 1 sg _ wsX9_legAt RX9 := S
  have hl : lv_has ls 1 [(0, .int (3 : Int32))] := hl
  refine lv_bipush (v := (8 : Int32)) S.1 S.2.1 dX9_legAt_0 (by decide) ?_
  refine lv_bipush (v := (8 : Int32)) S.1 S.2.1 dX9_legAt_2 (by decide) ?_
  refine lv_iload_n S.1 S.2.1 dX9_legAt_4 rfl (lv_at hl 0 rfl) ?_
  refine s_imul (v := (24 : Int32)) S dX9_legAt_5 (by decide) ?_
  refine s_iadd (v := (32 : Int32)) S dX9_legAt_6 (by decide) ?_
  refine s_iret (x := (32 : Int32)) S G hr hlk dX9_legAt_7 ?_
  exact ⟨rfl, rfl, rfl⟩
set_option maxHeartbeats 4000000 in
set_option maxRecDepth 100000 in
theorem k_X9_loadAt_0 (l : Launch) (E : Ev) {I : SI} {L : SL} : CS l yX9_loadAt wsX9_loadAt ({ frames := 0, cells := 0, slots := 0, locals := 0 }) E [.int (0 : Int32)] I L (fun vv I' L' => vv = some (.int (40 : Int32)) ∧ I' = I ∧ L' = L) := by
  refine CS.of (cc := cX9_loadAt) (maxL := 1) (ret := (some .int)) (by decide) rfl (Nat.le_of_ble_eq_true rfl) ?_
  intro pg en sg mg below meth cg ls S hr hlk hX G hl
  have S : CallFix pg mg cg cX9_loadAt 1 sg _ wsX9_loadAt RX9 := S
  have hl : lv_has ls 1 [(0, .int (0 : Int32))] := hl
  refine lv_bipush (v := (40 : Int32)) S.1 S.2.1 dX9_loadAt_0 (by decide) ?_
  refine lv_bipush (v := (30 : Int32)) S.1 S.2.1 dX9_loadAt_2 (by decide) ?_
  refine lv_iload_n S.1 S.2.1 dX9_loadAt_4 rfl (lv_at hl 0 rfl) ?_
  refine s_imul (v := (0 : Int32)) S dX9_loadAt_5 (by decide) ?_
  refine s_iadd (v := (40 : Int32)) S dX9_loadAt_6 (by decide) ?_
  refine s_iret (x := (40 : Int32)) S G hr hlk dX9_loadAt_7 ?_
  exact ⟨rfl, rfl, rfl⟩
set_option maxHeartbeats 4000000 in
set_option maxRecDepth 100000 in
theorem k_X9_loadAt_1 (l : Launch) (E : Ev) {I : SI} {L : SL} : CS l yX9_loadAt wsX9_loadAt ({ frames := 0, cells := 0, slots := 0, locals := 0 }) E [.int (1 : Int32)] I L (fun vv I' L' => vv = some (.int (70 : Int32)) ∧ I' = I ∧ L' = L) := by
  refine CS.of (cc := cX9_loadAt) (maxL := 1) (ret := (some .int)) (by decide) rfl (Nat.le_of_ble_eq_true rfl) ?_
  intro pg en sg mg below meth cg ls S hr hlk hX G hl
  have S : CallFix pg mg cg cX9_loadAt 1 sg _ wsX9_loadAt RX9 := S
  have hl : lv_has ls 1 [(0, .int (1 : Int32))] := hl
  refine lv_bipush (v := (40 : Int32)) S.1 S.2.1 dX9_loadAt_0 (by decide) ?_
  refine lv_bipush (v := (30 : Int32)) S.1 S.2.1 dX9_loadAt_2 (by decide) ?_
  refine lv_iload_n S.1 S.2.1 dX9_loadAt_4 rfl (lv_at hl 0 rfl) ?_
  refine s_imul (v := (30 : Int32)) S dX9_loadAt_5 (by decide) ?_
  refine s_iadd (v := (70 : Int32)) S dX9_loadAt_6 (by decide) ?_
  refine s_iret (x := (70 : Int32)) S G hr hlk dX9_loadAt_7 ?_
  exact ⟨rfl, rfl, rfl⟩
def towF (c b : Int32) : Int32 := if b < c then c - b else if c < 0 - b then c + b else 0
def absM (c : Int32) : Int32 := if 0 ≤ c then c else 0 - c
def ltdF (d : Nat → Int32) (L : Nat) : Int32 := 0 + (if ¬ d (L + 12) = -1 then 1 else 0) + (if ¬ d (L + 15) = -1 then 1 else 0) + (if ¬ d (L + 18) = -1 then 1 else 0)
def wshF (d : Nat → Int32) (n l L : Nat) : Int32 := if ¬ ltdF d L ≤ 0 then 0 else if n % 2 = 0 ∧ d (L + 7) = 1 then d (l + 8) else d l
def nowF (d : Nat → Int32) (l : Nat) (w : Int32) : Int32 := if w = d (l + 1) then w else if w = 0 then w else if d (l + 1) = 0 ∧ (d (l + 2) = -1 ∨ ¬ d (l + 2) < d 1) then w else if d 1 = 0 then w else 0
def ixF (x : Int32) : Nat := if x = 0 then 2 else if x = 1 then 0 else 1
set_option maxHeartbeats 4000000 in
set_option maxRecDepth 100000 in
theorem k_X9_toward (l : Launch) (E : Ev) {I : SI} {L : SL} (c : Int32) (b : Int32) : CS l yX9_toward wsX9_toward ({ frames := 0, cells := 0, slots := 0, locals := 0 }) E [.int c, .int b] I L (fun vv I' L' => vv = some (.int (towF c b)) ∧ I' = I ∧ L' = L) := by
  refine CS.of (cc := cX9_toward) (maxL := 2) (ret := (some .int)) (by decide) rfl (Nat.le_of_ble_eq_true rfl) ?_
  intro pg en sg mg below meth cg ls S hr hlk hX G hl
  have S : CallFix pg mg cg cX9_toward 2 sg _ wsX9_toward RX9 := S
  have hl : lv_has ls 2 [(0, .int c), (1, .int b)] := hl
  refine lv_iload_n S.1 S.2.1 dX9_toward_0 rfl (lv_at hl 0 rfl) ?_
  refine lv_iload_n S.1 S.2.1 dX9_toward_1 rfl (lv_at hl 1 rfl) ?_
  refine lv_icmp_le (tgt := 11) S.1 S.2.1 dX9_toward_2 (by decide) (fun c_1 => ?_) (fun c_1 => ?_)
  · refine lv_iload_n S.1 S.2.1 dX9_toward_11 rfl (lv_at hl 0 rfl) ?_
    refine lv_iload_n S.1 S.2.1 dX9_toward_12 rfl (lv_at hl 1 rfl) ?_
    refine lv_ineg S.1 S.2.1 dX9_toward_13 ?_
    refine lv_icmp_ge (tgt := 23) S.1 S.2.1 dX9_toward_14 (by decide) (fun c_2 => ?_) (fun c_2 => ?_)
    · refine lv_iconst (v := (0 : Int32)) S.1 S.2.1 dX9_toward_23 (by decide) ?_
      refine s_iret (x := (0 : Int32)) S G hr hlk dX9_toward_24 ?_
      exact ⟨(congrArg (fun q : Int32 => some (Value.int q)) (show (0 : Int32) = (towF c b) by first | (simp [towF, c_1, c_2]; done) | (clear S hX G hl; grind [towF]))), rfl, rfl⟩
    · refine lv_iload_n S.1 S.2.1 dX9_toward_17 rfl (lv_at hl 0 rfl) ?_
      refine lv_iload_n S.1 S.2.1 dX9_toward_18 rfl (lv_at hl 1 rfl) ?_
      refine s_iadd (v := (c + b)) S dX9_toward_19 rfl ?_
      refine lv_goto (tgt := 24) S.1 S.2.1 dX9_toward_20 (by decide) ?_
      refine s_iret (x := (c + b)) S G hr hlk dX9_toward_24 ?_
      exact ⟨(congrArg (fun q : Int32 => some (Value.int q)) (show (c + b) = (towF c b) by first | (simp [towF, c_1, c_2]; done) | (clear S hX G hl; grind [towF]))), rfl, rfl⟩
  · refine lv_iload_n S.1 S.2.1 dX9_toward_5 rfl (lv_at hl 0 rfl) ?_
    refine lv_iload_n S.1 S.2.1 dX9_toward_6 rfl (lv_at hl 1 rfl) ?_
    refine s_isub (v := (c - b)) S dX9_toward_7 rfl ?_
    refine lv_goto (tgt := 24) S.1 S.2.1 dX9_toward_8 (by decide) ?_
    refine s_iret (x := (c - b)) S G hr hlk dX9_toward_24 ?_
    exact ⟨(congrArg (fun q : Int32 => some (Value.int q)) (show (c - b) = (towF c b) by first | (simp [towF, c_1]; done) | (clear S hX G hl; grind [towF]))), rfl, rfl⟩
set_option maxHeartbeats 4000000 in
set_option maxRecDepth 100000 in
theorem k_X9_sizeOf_0 (l : Launch) (E : Ev) {I : SI} {L : SL} (d : Nat → Int32) (e_d : I (162) = d) : CS l yX9_sizeOf wsX9_sizeOf ({ frames := 1, cells := 0, slots := 0, locals := 20 }) E [.ref (E.2.2.2 161), .int (0 : Int32)] I L (fun vv I' L' => vv = some (.int (absM (d 44))) ∧ I' = I ∧ L' = L) := by
  refine CS.of (cc := cX9_sizeOf) (maxL := 3) (ret := (some .int)) (by decide) rfl (Nat.le_of_ble_eq_true rfl) ?_
  intro pg en sg mg below meth cg ls S hr hlk hX G hl
  have S : CallFix pg mg cg cX9_sizeOf 3 sg _ wsX9_sizeOf RX9 := S
  have hl : lv_has ls 3 [(0, .ref (E.2.2.2 161)), (1, .int (0 : Int32))] := hl
  refine lv_aload_n S.1 S.2.1 dX9_sizeOf_0 rfl (lv_at hl 0 rfl) ?_
  refine s_get S hX G (i := 161) (kd := 9) (a := (I 161)) (v := .ref (E.2.2.2 162)) (C := RX9) (T := TX9) (N := 13) 0 (rfl : sh 161 = 9) rfl rfl rfl (by decide) rfl (fun _ h => (List.mem_cons_of_mem _ (List.mem_append_right _ h))) (by decide) (List.mem_of_getElem? (i := 1) rfl) (fun _ h => h) dX9_sizeOf_1 ?_
  refine lv_iload_n S.1 S.2.1 dX9_sizeOf_4 rfl (lv_at hl 1 rfl) ?_
  refine s_callS (As := [.int (0 : Int32)]) (rest := [.ref (E.2.2.2 162)]) S hX G (k_X9_loadAt_0 l E) (va_cwS (bytes := cX9_loadAt) (maxL := 1) (ret := (some .int)) 1 S.2.2.2.2 gX9_sizeOf_X9_loadAt rfl rfl rfl (by decide +kernel) ⟨Nat.le_of_ble_eq_true rfl, Nat.le_of_ble_eq_true rfl⟩) rfl hl.1 rfl (Nat.le_of_ble_eq_true rfl) ⟨Nat.zero_le _, Nat.zero_le _⟩ dX9_sizeOf_5 (fun v I1 L1 H locs hR G => ?_)
  obtain ⟨hv, hI, hL⟩ := hR
  subst hv
  have G : GS E I L sg H locs := G.same hI hL
  refine W.eq (g2 := F0 mg 8 ls [.int (40 : Int32), .ref (E.2.2.2 162)]) rfl ?_
  refine lv_iconst (v := (4 : Int32)) S.1 S.2.1 dX9_sizeOf_8 (by decide) ?_
  refine s_iadd (v := (44 : Int32)) S dX9_sizeOf_9 (by decide) ?_
  refine s_iald S hX G (i := 162) (kd := 284) (n := 270) (a := d) (x := (d 44)) (rfl : sh 162 = 284) e_d rfl (by decide) (by unfold vp_in; decide) (congrArg d (by decide)) dX9_sizeOf_10 ?_
  refine lv_istore_n (lv' := [(2, .int (d 44)), (0, .ref (E.2.2.2 161)), (1, .int (0 : Int32))]) S.1 S.2.1 dX9_sizeOf_11 rfl hl (by decide) rfl (fun ls hl => ?_)
  refine lv_iload_n S.1 S.2.1 dX9_sizeOf_12 rfl (lv_at hl 0 rfl) ?_
  refine lv_if_ge (tgt := 21) S.1 S.2.1 dX9_sizeOf_13 (by decide) (fun c_1 => ?_) (fun c_1 => ?_)
  · refine lv_iload_n S.1 S.2.1 dX9_sizeOf_21 rfl (lv_at hl 0 rfl) ?_
    refine s_iret (x := (d 44)) S G hr hlk dX9_sizeOf_22 ?_
    exact ⟨(congrArg (fun q : Int32 => some (Value.int q)) (show (d 44) = (absM (d 44)) by first | (simp [absM, c_1]; done) | (clear S hX G hl; grind [absM]))), rfl, rfl⟩
  · refine lv_iload_n S.1 S.2.1 dX9_sizeOf_16 rfl (lv_at hl 0 rfl) ?_
    refine lv_ineg S.1 S.2.1 dX9_sizeOf_17 ?_
    refine lv_goto (tgt := 22) S.1 S.2.1 dX9_sizeOf_18 (by decide) ?_
    refine s_iret (x := (-(d 44))) S G hr hlk dX9_sizeOf_22 ?_
    exact ⟨(congrArg (fun q : Int32 => some (Value.int q)) (show (-(d 44)) = (absM (d 44)) by first | (simp [absM, c_1]; done) | (clear S hX G hl; grind [absM]))), rfl, rfl⟩
set_option maxHeartbeats 4000000 in
set_option maxRecDepth 100000 in
theorem k_X9_isLatched_0_0 (l : Launch) (E : Ev) {I : SI} {L : SL} (d : Nat → Int32) (e_d : I (162) = d) : CS l yX9_isLatched wsX9_isLatched ({ frames := 1, cells := 0, slots := 0, locals := 20 }) E [.ref (E.2.2.2 161), .int (0 : Int32), .int (0 : Int32)] I L (fun vv I' L' => vv = some (.int (if ¬ d 52 = -1 then 1 else 0)) ∧ I' = I ∧ L' = L) := by
  refine CS.of (cc := cX9_isLatched) (maxL := 3) (ret := (some .boolean)) (by decide) rfl (Nat.le_of_ble_eq_true rfl) ?_
  intro pg en sg mg below meth cg ls S hr hlk hX G hl
  have S : CallFix pg mg cg cX9_isLatched 3 sg _ wsX9_isLatched RX9 := S
  have hl : lv_has ls 3 [(0, .ref (E.2.2.2 161)), (1, .int (0 : Int32)), (2, .int (0 : Int32))] := hl
  refine lv_aload_n S.1 S.2.1 dX9_isLatched_0 rfl (lv_at hl 0 rfl) ?_
  refine s_get S hX G (i := 161) (kd := 9) (a := (I 161)) (v := .ref (E.2.2.2 162)) (C := RX9) (T := TX9) (N := 13) 0 (rfl : sh 161 = 9) rfl rfl rfl (by decide) rfl (fun _ h => (List.mem_cons_of_mem _ (List.mem_append_right _ h))) (by decide) (List.mem_of_getElem? (i := 1) rfl) (fun _ h => h) dX9_isLatched_1 ?_
  refine lv_iload_n S.1 S.2.1 dX9_isLatched_4 rfl (lv_at hl 1 rfl) ?_
  refine s_callS (As := [.int (0 : Int32)]) (rest := [.ref (E.2.2.2 162)]) S hX G (k_X9_loadAt_0 l E) (va_cwS (bytes := cX9_loadAt) (maxL := 1) (ret := (some .int)) 1 S.2.2.2.2 gX9_isLatched_X9_loadAt rfl rfl rfl (by decide +kernel) ⟨Nat.le_of_ble_eq_true rfl, Nat.le_of_ble_eq_true rfl⟩) rfl hl.1 rfl (Nat.le_of_ble_eq_true rfl) ⟨Nat.zero_le _, Nat.zero_le _⟩ dX9_isLatched_5 (fun v I1 L1 H locs hR G => ?_)
  obtain ⟨hv, hI, hL⟩ := hR
  subst hv
  have G : GS E I L sg H locs := G.same hI hL
  refine W.eq (g2 := F0 mg 8 ls [.int (40 : Int32), .ref (E.2.2.2 162)]) rfl ?_
  refine lv_bipush (v := (12 : Int32)) S.1 S.2.1 dX9_isLatched_8 (by decide) ?_
  refine s_iadd (v := (52 : Int32)) S dX9_isLatched_10 (by decide) ?_
  refine lv_iconst (v := (3 : Int32)) S.1 S.2.1 dX9_isLatched_11 (by decide) ?_
  refine lv_iload_n S.1 S.2.1 dX9_isLatched_12 rfl (lv_at hl 2 rfl) ?_
  refine s_imul (v := (0 : Int32)) S dX9_isLatched_13 (by decide) ?_
  refine s_iadd (v := (52 : Int32)) S dX9_isLatched_14 (by decide) ?_
  refine s_iald S hX G (i := 162) (kd := 284) (n := 270) (a := d) (x := (d 52)) (rfl : sh 162 = 284) e_d rfl (by decide) (by unfold vp_in; decide) (congrArg d (by decide)) dX9_isLatched_15 ?_
  refine lv_iconst (v := (-1 : Int32)) S.1 S.2.1 dX9_isLatched_16 (by decide) ?_
  refine lv_icmp_eq (tgt := 24) S.1 S.2.1 dX9_isLatched_17 (by decide) (fun c_1 => ?_) (fun c_1 => ?_)
  · refine lv_iconst (v := (0 : Int32)) S.1 S.2.1 dX9_isLatched_24 (by decide) ?_
    refine s_zret (x := (0 : Int32)) S G hr hlk dX9_isLatched_25 (Or.inl rfl) ?_
    exact ⟨(congrArg (fun q : Int32 => some (Value.int q)) (show (0 : Int32) = (if ¬ d 52 = -1 then 1 else 0) by first | (simp [c_1]; done) | (clear S hX G hl; grind []))), rfl, rfl⟩
  · refine lv_iconst (v := (1 : Int32)) S.1 S.2.1 dX9_isLatched_20 (by decide) ?_
    refine lv_goto (tgt := 25) S.1 S.2.1 dX9_isLatched_21 (by decide) ?_
    refine s_zret (x := (1 : Int32)) S G hr hlk dX9_isLatched_25 (Or.inr rfl) ?_
    exact ⟨(congrArg (fun q : Int32 => some (Value.int q)) (show (1 : Int32) = (if ¬ d 52 = -1 then 1 else 0) by first | (simp [c_1]; done) | (clear S hX G hl; grind []))), rfl, rfl⟩
set_option maxHeartbeats 4000000 in
set_option maxRecDepth 100000 in
theorem k_X9_isLatched_0_1 (l : Launch) (E : Ev) {I : SI} {L : SL} (d : Nat → Int32) (e_d : I (162) = d) : CS l yX9_isLatched wsX9_isLatched ({ frames := 1, cells := 0, slots := 0, locals := 20 }) E [.ref (E.2.2.2 161), .int (0 : Int32), .int (1 : Int32)] I L (fun vv I' L' => vv = some (.int (if ¬ d 55 = -1 then 1 else 0)) ∧ I' = I ∧ L' = L) := by
  refine CS.of (cc := cX9_isLatched) (maxL := 3) (ret := (some .boolean)) (by decide) rfl (Nat.le_of_ble_eq_true rfl) ?_
  intro pg en sg mg below meth cg ls S hr hlk hX G hl
  have S : CallFix pg mg cg cX9_isLatched 3 sg _ wsX9_isLatched RX9 := S
  have hl : lv_has ls 3 [(0, .ref (E.2.2.2 161)), (1, .int (0 : Int32)), (2, .int (1 : Int32))] := hl
  refine lv_aload_n S.1 S.2.1 dX9_isLatched_0 rfl (lv_at hl 0 rfl) ?_
  refine s_get S hX G (i := 161) (kd := 9) (a := (I 161)) (v := .ref (E.2.2.2 162)) (C := RX9) (T := TX9) (N := 13) 0 (rfl : sh 161 = 9) rfl rfl rfl (by decide) rfl (fun _ h => (List.mem_cons_of_mem _ (List.mem_append_right _ h))) (by decide) (List.mem_of_getElem? (i := 1) rfl) (fun _ h => h) dX9_isLatched_1 ?_
  refine lv_iload_n S.1 S.2.1 dX9_isLatched_4 rfl (lv_at hl 1 rfl) ?_
  refine s_callS (As := [.int (0 : Int32)]) (rest := [.ref (E.2.2.2 162)]) S hX G (k_X9_loadAt_0 l E) (va_cwS (bytes := cX9_loadAt) (maxL := 1) (ret := (some .int)) 1 S.2.2.2.2 gX9_isLatched_X9_loadAt rfl rfl rfl (by decide +kernel) ⟨Nat.le_of_ble_eq_true rfl, Nat.le_of_ble_eq_true rfl⟩) rfl hl.1 rfl (Nat.le_of_ble_eq_true rfl) ⟨Nat.zero_le _, Nat.zero_le _⟩ dX9_isLatched_5 (fun v I1 L1 H locs hR G => ?_)
  obtain ⟨hv, hI, hL⟩ := hR
  subst hv
  have G : GS E I L sg H locs := G.same hI hL
  refine W.eq (g2 := F0 mg 8 ls [.int (40 : Int32), .ref (E.2.2.2 162)]) rfl ?_
  refine lv_bipush (v := (12 : Int32)) S.1 S.2.1 dX9_isLatched_8 (by decide) ?_
  refine s_iadd (v := (52 : Int32)) S dX9_isLatched_10 (by decide) ?_
  refine lv_iconst (v := (3 : Int32)) S.1 S.2.1 dX9_isLatched_11 (by decide) ?_
  refine lv_iload_n S.1 S.2.1 dX9_isLatched_12 rfl (lv_at hl 2 rfl) ?_
  refine s_imul (v := (3 : Int32)) S dX9_isLatched_13 (by decide) ?_
  refine s_iadd (v := (55 : Int32)) S dX9_isLatched_14 (by decide) ?_
  refine s_iald S hX G (i := 162) (kd := 284) (n := 270) (a := d) (x := (d 55)) (rfl : sh 162 = 284) e_d rfl (by decide) (by unfold vp_in; decide) (congrArg d (by decide)) dX9_isLatched_15 ?_
  refine lv_iconst (v := (-1 : Int32)) S.1 S.2.1 dX9_isLatched_16 (by decide) ?_
  refine lv_icmp_eq (tgt := 24) S.1 S.2.1 dX9_isLatched_17 (by decide) (fun c_1 => ?_) (fun c_1 => ?_)
  · refine lv_iconst (v := (0 : Int32)) S.1 S.2.1 dX9_isLatched_24 (by decide) ?_
    refine s_zret (x := (0 : Int32)) S G hr hlk dX9_isLatched_25 (Or.inl rfl) ?_
    exact ⟨(congrArg (fun q : Int32 => some (Value.int q)) (show (0 : Int32) = (if ¬ d 55 = -1 then 1 else 0) by first | (simp [c_1]; done) | (clear S hX G hl; grind []))), rfl, rfl⟩
  · refine lv_iconst (v := (1 : Int32)) S.1 S.2.1 dX9_isLatched_20 (by decide) ?_
    refine lv_goto (tgt := 25) S.1 S.2.1 dX9_isLatched_21 (by decide) ?_
    refine s_zret (x := (1 : Int32)) S G hr hlk dX9_isLatched_25 (Or.inr rfl) ?_
    exact ⟨(congrArg (fun q : Int32 => some (Value.int q)) (show (1 : Int32) = (if ¬ d 55 = -1 then 1 else 0) by first | (simp [c_1]; done) | (clear S hX G hl; grind []))), rfl, rfl⟩
set_option maxHeartbeats 4000000 in
set_option maxRecDepth 100000 in
theorem k_X9_isLatched_0_2 (l : Launch) (E : Ev) {I : SI} {L : SL} (d : Nat → Int32) (e_d : I (162) = d) : CS l yX9_isLatched wsX9_isLatched ({ frames := 1, cells := 0, slots := 0, locals := 20 }) E [.ref (E.2.2.2 161), .int (0 : Int32), .int (2 : Int32)] I L (fun vv I' L' => vv = some (.int (if ¬ d 58 = -1 then 1 else 0)) ∧ I' = I ∧ L' = L) := by
  refine CS.of (cc := cX9_isLatched) (maxL := 3) (ret := (some .boolean)) (by decide) rfl (Nat.le_of_ble_eq_true rfl) ?_
  intro pg en sg mg below meth cg ls S hr hlk hX G hl
  have S : CallFix pg mg cg cX9_isLatched 3 sg _ wsX9_isLatched RX9 := S
  have hl : lv_has ls 3 [(0, .ref (E.2.2.2 161)), (1, .int (0 : Int32)), (2, .int (2 : Int32))] := hl
  refine lv_aload_n S.1 S.2.1 dX9_isLatched_0 rfl (lv_at hl 0 rfl) ?_
  refine s_get S hX G (i := 161) (kd := 9) (a := (I 161)) (v := .ref (E.2.2.2 162)) (C := RX9) (T := TX9) (N := 13) 0 (rfl : sh 161 = 9) rfl rfl rfl (by decide) rfl (fun _ h => (List.mem_cons_of_mem _ (List.mem_append_right _ h))) (by decide) (List.mem_of_getElem? (i := 1) rfl) (fun _ h => h) dX9_isLatched_1 ?_
  refine lv_iload_n S.1 S.2.1 dX9_isLatched_4 rfl (lv_at hl 1 rfl) ?_
  refine s_callS (As := [.int (0 : Int32)]) (rest := [.ref (E.2.2.2 162)]) S hX G (k_X9_loadAt_0 l E) (va_cwS (bytes := cX9_loadAt) (maxL := 1) (ret := (some .int)) 1 S.2.2.2.2 gX9_isLatched_X9_loadAt rfl rfl rfl (by decide +kernel) ⟨Nat.le_of_ble_eq_true rfl, Nat.le_of_ble_eq_true rfl⟩) rfl hl.1 rfl (Nat.le_of_ble_eq_true rfl) ⟨Nat.zero_le _, Nat.zero_le _⟩ dX9_isLatched_5 (fun v I1 L1 H locs hR G => ?_)
  obtain ⟨hv, hI, hL⟩ := hR
  subst hv
  have G : GS E I L sg H locs := G.same hI hL
  refine W.eq (g2 := F0 mg 8 ls [.int (40 : Int32), .ref (E.2.2.2 162)]) rfl ?_
  refine lv_bipush (v := (12 : Int32)) S.1 S.2.1 dX9_isLatched_8 (by decide) ?_
  refine s_iadd (v := (52 : Int32)) S dX9_isLatched_10 (by decide) ?_
  refine lv_iconst (v := (3 : Int32)) S.1 S.2.1 dX9_isLatched_11 (by decide) ?_
  refine lv_iload_n S.1 S.2.1 dX9_isLatched_12 rfl (lv_at hl 2 rfl) ?_
  refine s_imul (v := (6 : Int32)) S dX9_isLatched_13 (by decide) ?_
  refine s_iadd (v := (58 : Int32)) S dX9_isLatched_14 (by decide) ?_
  refine s_iald S hX G (i := 162) (kd := 284) (n := 270) (a := d) (x := (d 58)) (rfl : sh 162 = 284) e_d rfl (by decide) (by unfold vp_in; decide) (congrArg d (by decide)) dX9_isLatched_15 ?_
  refine lv_iconst (v := (-1 : Int32)) S.1 S.2.1 dX9_isLatched_16 (by decide) ?_
  refine lv_icmp_eq (tgt := 24) S.1 S.2.1 dX9_isLatched_17 (by decide) (fun c_1 => ?_) (fun c_1 => ?_)
  · refine lv_iconst (v := (0 : Int32)) S.1 S.2.1 dX9_isLatched_24 (by decide) ?_
    refine s_zret (x := (0 : Int32)) S G hr hlk dX9_isLatched_25 (Or.inl rfl) ?_
    exact ⟨(congrArg (fun q : Int32 => some (Value.int q)) (show (0 : Int32) = (if ¬ d 58 = -1 then 1 else 0) by first | (simp [c_1]; done) | (clear S hX G hl; grind []))), rfl, rfl⟩
  · refine lv_iconst (v := (1 : Int32)) S.1 S.2.1 dX9_isLatched_20 (by decide) ?_
    refine lv_goto (tgt := 25) S.1 S.2.1 dX9_isLatched_21 (by decide) ?_
    refine s_zret (x := (1 : Int32)) S G hr hlk dX9_isLatched_25 (Or.inr rfl) ?_
    exact ⟨(congrArg (fun q : Int32 => some (Value.int q)) (show (1 : Int32) = (if ¬ d 58 = -1 then 1 else 0) by first | (simp [c_1]; done) | (clear S hX G hl; grind []))), rfl, rfl⟩
set_option maxHeartbeats 4000000 in
set_option maxRecDepth 100000 in
theorem k_X9_latched_0 (l : Launch) (E : Ev) {I : SI} {L : SL} (d : Nat → Int32) (e_d : I (162) = d) : CS l yX9_latched wsX9_latched ({ frames := 2, cells := 0, slots := 0, locals := 42 }) E [.ref (E.2.2.2 161), .int (0 : Int32)] I L (fun vv I' L' => vv = some (.int (ltdF d 40)) ∧ I' = I ∧ L' = L) := by
  refine CS.of (cc := cX9_latched) (maxL := 4) (ret := (some .int)) (by decide) rfl (Nat.le_of_ble_eq_true rfl) ?_
  intro pg en sg mg below meth cg ls S hr hlk hX G hl
  have S : CallFix pg mg cg cX9_latched 4 sg _ wsX9_latched RX9 := S
  have hl : lv_has ls 4 [(0, .ref (E.2.2.2 161)), (1, .int (0 : Int32))] := hl
  refine lv_iconst (v := (0 : Int32)) S.1 S.2.1 dX9_latched_0 (by decide) ?_
  refine lv_istore_n (lv' := [(2, .int (0 : Int32)), (0, .ref (E.2.2.2 161)), (1, .int (0 : Int32))]) S.1 S.2.1 dX9_latched_1 rfl hl (by decide) rfl (fun ls hl => ?_)
  refine lv_iconst (v := (0 : Int32)) S.1 S.2.1 dX9_latched_2 (by decide) ?_
  refine lv_istore_n (lv' := [(3, .int (0 : Int32)), (2, .int (0 : Int32)), (0, .ref (E.2.2.2 161)), (1, .int (0 : Int32))]) S.1 S.2.1 dX9_latched_3 rfl hl (by decide) rfl (fun ls hl => ?_)
  refine s_cut (α := Int32) (nL := 4) (E := E) (fun x I' L' => x = ((0 : Int32) + (if ¬ d 52 = -1 then 1 else 0)) ∧ I' = I ∧ L' = L) (fun x => [(3, .int (1 : Int32)), (2, .int x), (0, .ref (E.2.2.2 161)), (1, .int (0 : Int32))]) 4 (fun x => []) (fun kJ_1 => ?_) (fun x I1 L1 H locs ls hP G hl => ?_)
  · refine lv_iload_n S.1 S.2.1 dX9_latched_4 rfl (lv_at hl 0 rfl) ?_
    refine lv_iconst (v := (3 : Int32)) S.1 S.2.1 dX9_latched_5 (by decide) ?_
    refine lv_icmp_ge (tgt := 32) S.1 S.2.1 dX9_latched_6 (by decide) (fun h => absurd h (by decide)) (fun _ => ?_)
    refine lv_iload_n S.1 S.2.1 dX9_latched_9 rfl (lv_at hl 1 rfl) ?_
    refine lv_aload_n S.1 S.2.1 dX9_latched_10 rfl (lv_at hl 2 rfl) ?_
    refine lv_iload_n S.1 S.2.1 dX9_latched_11 rfl (lv_at hl 3 rfl) ?_
    refine lv_iload_n S.1 S.2.1 dX9_latched_12 rfl (lv_at hl 0 rfl) ?_
    refine s_callV (C := RX9) (As := [.int (0 : Int32), .int (0 : Int32)]) (rest := [.int (0 : Int32)]) (i := 161) (kd := 9) S hX G (k_X9_isLatched_0_0 l E d e_d) (cwV (bytes := cX9_isLatched) (maxL := 3) (ret := (some .boolean)) 2 S.2.2.2.2 gX9_latched_X9_isLatched rfl rfl rfl (by decide +kernel) ⟨Nat.le_of_ble_eq_true rfl, Nat.le_of_ble_eq_true rfl⟩) (rfl : sh 161 = 9) rfl rfl rfl (by decide) rfl hl.1 rfl (Nat.le_of_ble_eq_true rfl) ⟨Nat.zero_le _, Nat.zero_le _⟩ dX9_latched_13 (fun v I1 L1 H locs hR G => ?_)
    obtain ⟨hv, hI, hL⟩ := hR
    subst hv
    have G : GS E I L sg H locs := G.same hI hL
    refine W.eq (g2 := F0 mg 16 ls [.int (if ¬ d 52 = -1 then 1 else 0), .int (0 : Int32)]) rfl ?_
    refine s_if_eq_b (P := ¬ d 52 = -1) (tgt := 23) S dX9_latched_16 (by decide) (fun c_2 => ?_) (fun c_2 => ?_)
    · refine lv_iconst (v := (0 : Int32)) S.1 S.2.1 dX9_latched_23 (by decide) ?_
      refine s_iadd (v := (0 : Int32)) S dX9_latched_24 (by decide) ?_
      refine lv_istore_n (lv' := [(2, .int (0 : Int32)), (3, .int (0 : Int32)), (0, .ref (E.2.2.2 161)), (1, .int (0 : Int32))]) S.1 S.2.1 dX9_latched_25 rfl hl (by decide) rfl (fun ls hl => ?_)
      refine lv_iinc (v := (1 : Int32)) (lv' := [(3, .int (1 : Int32)), (2, .int (0 : Int32)), (0, .ref (E.2.2.2 161)), (1, .int (0 : Int32))]) S.1 S.2.1 dX9_latched_26 hl (k := 1) rfl (by decide) (by decide) rfl (fun ls hl => ?_)
      refine lv_goto (tgt := 4) S.1 S.2.1 dX9_latched_29 (by decide) ?_
      exact kJ_1 (0 : Int32) _ _ _ _ _ ⟨(show (0 : Int32) = (0 : Int32) + (if ¬ d 52 = -1 then 1 else 0) by first | rfl | exact ite_p c_2 _ | exact ite_p0 c_2 | exact ite_z c_2 _ | exact ite_z0 c_2), rfl, rfl⟩ G (lv_sub hl [0, 1, 2, 3] rfl)
    · refine lv_iconst (v := (1 : Int32)) S.1 S.2.1 dX9_latched_19 (by decide) ?_
      refine lv_goto (tgt := 24) S.1 S.2.1 dX9_latched_20 (by decide) ?_
      refine s_iadd (v := (1 : Int32)) S dX9_latched_24 (by decide) ?_
      refine lv_istore_n (lv' := [(2, .int (1 : Int32)), (3, .int (0 : Int32)), (0, .ref (E.2.2.2 161)), (1, .int (0 : Int32))]) S.1 S.2.1 dX9_latched_25 rfl hl (by decide) rfl (fun ls hl => ?_)
      refine lv_iinc (v := (1 : Int32)) (lv' := [(3, .int (1 : Int32)), (2, .int (1 : Int32)), (0, .ref (E.2.2.2 161)), (1, .int (0 : Int32))]) S.1 S.2.1 dX9_latched_26 hl (k := 1) rfl (by decide) (by decide) rfl (fun ls hl => ?_)
      refine lv_goto (tgt := 4) S.1 S.2.1 dX9_latched_29 (by decide) ?_
      exact kJ_1 (1 : Int32) _ _ _ _ _ ⟨(show (1 : Int32) = (0 : Int32) + (if ¬ d 52 = -1 then 1 else 0) by first | rfl | exact ite_p c_2 _ | exact ite_p0 c_2 | exact ite_z c_2 _ | exact ite_z0 c_2), rfl, rfl⟩ G (lv_sub hl [0, 1, 2, 3] rfl)
  · obtain ⟨h0, hI, hL⟩ := hP
    have h0 : x = ((0 : Int32) + (if ¬ d 52 = -1 then 1 else 0)) := h0
    have hl : lv_has ls 4 [(3, .int (1 : Int32)), (2, .int x), (0, .ref (E.2.2.2 161)), (1, .int (0 : Int32))] := hl
    subst h0
    have G : GS E I L sg H locs := G.same hI hL
    refine W.eq (g2 := F0 mg 4 ls []) rfl ?_
    refine s_cut (α := Int32) (nL := 4) (E := E) (fun x I' L' => x = (((0 : Int32) + (if ¬ d 52 = -1 then 1 else 0)) + (if ¬ d 55 = -1 then 1 else 0)) ∧ I' = I ∧ L' = L) (fun x => [(3, .int (2 : Int32)), (2, .int x), (0, .ref (E.2.2.2 161)), (1, .int (0 : Int32))]) 4 (fun x => []) (fun kJ_3 => ?_) (fun x I1 L1 H locs ls hP G hl => ?_)
    · refine lv_iload_n S.1 S.2.1 dX9_latched_4 rfl (lv_at hl 0 rfl) ?_
      refine lv_iconst (v := (3 : Int32)) S.1 S.2.1 dX9_latched_5 (by decide) ?_
      refine lv_icmp_ge (tgt := 32) S.1 S.2.1 dX9_latched_6 (by decide) (fun h => absurd h (by decide)) (fun _ => ?_)
      refine lv_iload_n S.1 S.2.1 dX9_latched_9 rfl (lv_at hl 1 rfl) ?_
      refine lv_aload_n S.1 S.2.1 dX9_latched_10 rfl (lv_at hl 2 rfl) ?_
      refine lv_iload_n S.1 S.2.1 dX9_latched_11 rfl (lv_at hl 3 rfl) ?_
      refine lv_iload_n S.1 S.2.1 dX9_latched_12 rfl (lv_at hl 0 rfl) ?_
      refine s_callV (C := RX9) (As := [.int (0 : Int32), .int (1 : Int32)]) (rest := [.int ((0 : Int32) + (if ¬ d 52 = -1 then 1 else 0))]) (i := 161) (kd := 9) S hX G (k_X9_isLatched_0_1 l E d e_d) (cwV (bytes := cX9_isLatched) (maxL := 3) (ret := (some .boolean)) 2 S.2.2.2.2 gX9_latched_X9_isLatched rfl rfl rfl (by decide +kernel) ⟨Nat.le_of_ble_eq_true rfl, Nat.le_of_ble_eq_true rfl⟩) (rfl : sh 161 = 9) rfl rfl rfl (by decide) rfl hl.1 rfl (Nat.le_of_ble_eq_true rfl) ⟨Nat.zero_le _, Nat.zero_le _⟩ dX9_latched_13 (fun v I1 L1 H locs hR G => ?_)
      obtain ⟨hv, hI, hL⟩ := hR
      subst hv
      have G : GS E I L sg H locs := G.same hI hL
      refine W.eq (g2 := F0 mg 16 ls [.int (if ¬ d 55 = -1 then 1 else 0), .int ((0 : Int32) + (if ¬ d 52 = -1 then 1 else 0))]) rfl ?_
      refine s_if_eq_b (P := ¬ d 55 = -1) (tgt := 23) S dX9_latched_16 (by decide) (fun c_4 => ?_) (fun c_4 => ?_)
      · refine lv_iconst (v := (0 : Int32)) S.1 S.2.1 dX9_latched_23 (by decide) ?_
        refine s_iadd (v := (((0 : Int32) + (if ¬ d 52 = -1 then 1 else 0)) + (0 : Int32))) S dX9_latched_24 rfl ?_
        refine lv_istore_n (lv' := [(2, .int (((0 : Int32) + (if ¬ d 52 = -1 then 1 else 0)) + (0 : Int32))), (3, .int (1 : Int32)), (0, .ref (E.2.2.2 161)), (1, .int (0 : Int32))]) S.1 S.2.1 dX9_latched_25 rfl hl (by decide) rfl (fun ls hl => ?_)
        refine lv_iinc (v := (2 : Int32)) (lv' := [(3, .int (2 : Int32)), (2, .int (((0 : Int32) + (if ¬ d 52 = -1 then 1 else 0)) + (0 : Int32))), (0, .ref (E.2.2.2 161)), (1, .int (0 : Int32))]) S.1 S.2.1 dX9_latched_26 hl (k := 1) rfl (by decide) (by decide) rfl (fun ls hl => ?_)
        refine lv_goto (tgt := 4) S.1 S.2.1 dX9_latched_29 (by decide) ?_
        exact kJ_3 (((0 : Int32) + (if ¬ d 52 = -1 then 1 else 0)) + (0 : Int32)) _ _ _ _ _ ⟨(show (((0 : Int32) + (if ¬ d 52 = -1 then 1 else 0)) + (0 : Int32)) = ((0 : Int32) + (if ¬ d 52 = -1 then 1 else 0)) + (if ¬ d 55 = -1 then 1 else 0) by first | rfl | exact ite_p c_4 _ | exact ite_p0 c_4 | exact ite_z c_4 _ | exact ite_z0 c_4), rfl, rfl⟩ G (lv_sub hl [0, 1, 2, 3] rfl)
      · refine lv_iconst (v := (1 : Int32)) S.1 S.2.1 dX9_latched_19 (by decide) ?_
        refine lv_goto (tgt := 24) S.1 S.2.1 dX9_latched_20 (by decide) ?_
        refine s_iadd (v := (((0 : Int32) + (if ¬ d 52 = -1 then 1 else 0)) + (1 : Int32))) S dX9_latched_24 rfl ?_
        refine lv_istore_n (lv' := [(2, .int (((0 : Int32) + (if ¬ d 52 = -1 then 1 else 0)) + (1 : Int32))), (3, .int (1 : Int32)), (0, .ref (E.2.2.2 161)), (1, .int (0 : Int32))]) S.1 S.2.1 dX9_latched_25 rfl hl (by decide) rfl (fun ls hl => ?_)
        refine lv_iinc (v := (2 : Int32)) (lv' := [(3, .int (2 : Int32)), (2, .int (((0 : Int32) + (if ¬ d 52 = -1 then 1 else 0)) + (1 : Int32))), (0, .ref (E.2.2.2 161)), (1, .int (0 : Int32))]) S.1 S.2.1 dX9_latched_26 hl (k := 1) rfl (by decide) (by decide) rfl (fun ls hl => ?_)
        refine lv_goto (tgt := 4) S.1 S.2.1 dX9_latched_29 (by decide) ?_
        exact kJ_3 (((0 : Int32) + (if ¬ d 52 = -1 then 1 else 0)) + (1 : Int32)) _ _ _ _ _ ⟨(show (((0 : Int32) + (if ¬ d 52 = -1 then 1 else 0)) + (1 : Int32)) = ((0 : Int32) + (if ¬ d 52 = -1 then 1 else 0)) + (if ¬ d 55 = -1 then 1 else 0) by first | rfl | exact ite_p c_4 _ | exact ite_p0 c_4 | exact ite_z c_4 _ | exact ite_z0 c_4), rfl, rfl⟩ G (lv_sub hl [0, 1, 2, 3] rfl)
    · obtain ⟨h0, hI, hL⟩ := hP
      have h0 : x = (((0 : Int32) + (if ¬ d 52 = -1 then 1 else 0)) + (if ¬ d 55 = -1 then 1 else 0)) := h0
      have hl : lv_has ls 4 [(3, .int (2 : Int32)), (2, .int x), (0, .ref (E.2.2.2 161)), (1, .int (0 : Int32))] := hl
      subst h0
      have G : GS E I L sg H locs := G.same hI hL
      refine W.eq (g2 := F0 mg 4 ls []) rfl ?_
      refine s_cut (α := Int32) (nL := 4) (E := E) (fun x I' L' => x = ((((0 : Int32) + (if ¬ d 52 = -1 then 1 else 0)) + (if ¬ d 55 = -1 then 1 else 0)) + (if ¬ d 58 = -1 then 1 else 0)) ∧ I' = I ∧ L' = L) (fun x => [(3, .int (3 : Int32)), (2, .int x), (0, .ref (E.2.2.2 161)), (1, .int (0 : Int32))]) 4 (fun x => []) (fun kJ_5 => ?_) (fun x I1 L1 H locs ls hP G hl => ?_)
      · refine lv_iload_n S.1 S.2.1 dX9_latched_4 rfl (lv_at hl 0 rfl) ?_
        refine lv_iconst (v := (3 : Int32)) S.1 S.2.1 dX9_latched_5 (by decide) ?_
        refine lv_icmp_ge (tgt := 32) S.1 S.2.1 dX9_latched_6 (by decide) (fun h => absurd h (by decide)) (fun _ => ?_)
        refine lv_iload_n S.1 S.2.1 dX9_latched_9 rfl (lv_at hl 1 rfl) ?_
        refine lv_aload_n S.1 S.2.1 dX9_latched_10 rfl (lv_at hl 2 rfl) ?_
        refine lv_iload_n S.1 S.2.1 dX9_latched_11 rfl (lv_at hl 3 rfl) ?_
        refine lv_iload_n S.1 S.2.1 dX9_latched_12 rfl (lv_at hl 0 rfl) ?_
        refine s_callV (C := RX9) (As := [.int (0 : Int32), .int (2 : Int32)]) (rest := [.int (((0 : Int32) + (if ¬ d 52 = -1 then 1 else 0)) + (if ¬ d 55 = -1 then 1 else 0))]) (i := 161) (kd := 9) S hX G (k_X9_isLatched_0_2 l E d e_d) (cwV (bytes := cX9_isLatched) (maxL := 3) (ret := (some .boolean)) 2 S.2.2.2.2 gX9_latched_X9_isLatched rfl rfl rfl (by decide +kernel) ⟨Nat.le_of_ble_eq_true rfl, Nat.le_of_ble_eq_true rfl⟩) (rfl : sh 161 = 9) rfl rfl rfl (by decide) rfl hl.1 rfl (Nat.le_of_ble_eq_true rfl) ⟨Nat.zero_le _, Nat.zero_le _⟩ dX9_latched_13 (fun v I1 L1 H locs hR G => ?_)
        obtain ⟨hv, hI, hL⟩ := hR
        subst hv
        have G : GS E I L sg H locs := G.same hI hL
        refine W.eq (g2 := F0 mg 16 ls [.int (if ¬ d 58 = -1 then 1 else 0), .int (((0 : Int32) + (if ¬ d 52 = -1 then 1 else 0)) + (if ¬ d 55 = -1 then 1 else 0))]) rfl ?_
        refine s_if_eq_b (P := ¬ d 58 = -1) (tgt := 23) S dX9_latched_16 (by decide) (fun c_6 => ?_) (fun c_6 => ?_)
        · refine lv_iconst (v := (0 : Int32)) S.1 S.2.1 dX9_latched_23 (by decide) ?_
          refine s_iadd (v := ((((0 : Int32) + (if ¬ d 52 = -1 then 1 else 0)) + (if ¬ d 55 = -1 then 1 else 0)) + (0 : Int32))) S dX9_latched_24 rfl ?_
          refine lv_istore_n (lv' := [(2, .int ((((0 : Int32) + (if ¬ d 52 = -1 then 1 else 0)) + (if ¬ d 55 = -1 then 1 else 0)) + (0 : Int32))), (3, .int (2 : Int32)), (0, .ref (E.2.2.2 161)), (1, .int (0 : Int32))]) S.1 S.2.1 dX9_latched_25 rfl hl (by decide) rfl (fun ls hl => ?_)
          refine lv_iinc (v := (3 : Int32)) (lv' := [(3, .int (3 : Int32)), (2, .int ((((0 : Int32) + (if ¬ d 52 = -1 then 1 else 0)) + (if ¬ d 55 = -1 then 1 else 0)) + (0 : Int32))), (0, .ref (E.2.2.2 161)), (1, .int (0 : Int32))]) S.1 S.2.1 dX9_latched_26 hl (k := 1) rfl (by decide) (by decide) rfl (fun ls hl => ?_)
          refine lv_goto (tgt := 4) S.1 S.2.1 dX9_latched_29 (by decide) ?_
          exact kJ_5 ((((0 : Int32) + (if ¬ d 52 = -1 then 1 else 0)) + (if ¬ d 55 = -1 then 1 else 0)) + (0 : Int32)) _ _ _ _ _ ⟨(show ((((0 : Int32) + (if ¬ d 52 = -1 then 1 else 0)) + (if ¬ d 55 = -1 then 1 else 0)) + (0 : Int32)) = (((0 : Int32) + (if ¬ d 52 = -1 then 1 else 0)) + (if ¬ d 55 = -1 then 1 else 0)) + (if ¬ d 58 = -1 then 1 else 0) by first | rfl | exact ite_p c_6 _ | exact ite_p0 c_6 | exact ite_z c_6 _ | exact ite_z0 c_6), rfl, rfl⟩ G (lv_sub hl [0, 1, 2, 3] rfl)
        · refine lv_iconst (v := (1 : Int32)) S.1 S.2.1 dX9_latched_19 (by decide) ?_
          refine lv_goto (tgt := 24) S.1 S.2.1 dX9_latched_20 (by decide) ?_
          refine s_iadd (v := ((((0 : Int32) + (if ¬ d 52 = -1 then 1 else 0)) + (if ¬ d 55 = -1 then 1 else 0)) + (1 : Int32))) S dX9_latched_24 rfl ?_
          refine lv_istore_n (lv' := [(2, .int ((((0 : Int32) + (if ¬ d 52 = -1 then 1 else 0)) + (if ¬ d 55 = -1 then 1 else 0)) + (1 : Int32))), (3, .int (2 : Int32)), (0, .ref (E.2.2.2 161)), (1, .int (0 : Int32))]) S.1 S.2.1 dX9_latched_25 rfl hl (by decide) rfl (fun ls hl => ?_)
          refine lv_iinc (v := (3 : Int32)) (lv' := [(3, .int (3 : Int32)), (2, .int ((((0 : Int32) + (if ¬ d 52 = -1 then 1 else 0)) + (if ¬ d 55 = -1 then 1 else 0)) + (1 : Int32))), (0, .ref (E.2.2.2 161)), (1, .int (0 : Int32))]) S.1 S.2.1 dX9_latched_26 hl (k := 1) rfl (by decide) (by decide) rfl (fun ls hl => ?_)
          refine lv_goto (tgt := 4) S.1 S.2.1 dX9_latched_29 (by decide) ?_
          exact kJ_5 ((((0 : Int32) + (if ¬ d 52 = -1 then 1 else 0)) + (if ¬ d 55 = -1 then 1 else 0)) + (1 : Int32)) _ _ _ _ _ ⟨(show ((((0 : Int32) + (if ¬ d 52 = -1 then 1 else 0)) + (if ¬ d 55 = -1 then 1 else 0)) + (1 : Int32)) = (((0 : Int32) + (if ¬ d 52 = -1 then 1 else 0)) + (if ¬ d 55 = -1 then 1 else 0)) + (if ¬ d 58 = -1 then 1 else 0) by first | rfl | exact ite_p c_6 _ | exact ite_p0 c_6 | exact ite_z c_6 _ | exact ite_z0 c_6), rfl, rfl⟩ G (lv_sub hl [0, 1, 2, 3] rfl)
      · obtain ⟨h0, hI, hL⟩ := hP
        have h0 : x = ((((0 : Int32) + (if ¬ d 52 = -1 then 1 else 0)) + (if ¬ d 55 = -1 then 1 else 0)) + (if ¬ d 58 = -1 then 1 else 0)) := h0
        have hl : lv_has ls 4 [(3, .int (3 : Int32)), (2, .int x), (0, .ref (E.2.2.2 161)), (1, .int (0 : Int32))] := hl
        subst h0
        have G : GS E I L sg H locs := G.same hI hL
        refine W.eq (g2 := F0 mg 4 ls []) rfl ?_
        refine lv_iload_n S.1 S.2.1 dX9_latched_4 rfl (lv_at hl 0 rfl) ?_
        refine lv_iconst (v := (3 : Int32)) S.1 S.2.1 dX9_latched_5 (by decide) ?_
        refine lv_icmp_ge (tgt := 32) S.1 S.2.1 dX9_latched_6 (by decide) (fun _ => ?_) (fun h => absurd (by decide) h)
        refine lv_iload_n S.1 S.2.1 dX9_latched_32 rfl (lv_at hl 1 rfl) ?_
        refine s_iret (x := ((((0 : Int32) + (if ¬ d 52 = -1 then 1 else 0)) + (if ¬ d 55 = -1 then 1 else 0)) + (if ¬ d 58 = -1 then 1 else 0))) S G hr hlk dX9_latched_33 ?_
        exact ⟨(congrArg (fun q : Int32 => some (Value.int q)) (show ((((0 : Int32) + (if ¬ d 52 = -1 then 1 else 0)) + (if ¬ d 55 = -1 then 1 else 0)) + (if ¬ d 58 = -1 then 1 else 0)) = (ltdF d 40) by rfl)), rfl, rfl⟩
set_option maxHeartbeats 4000000 in
set_option maxRecDepth 100000 in
theorem k_X9_sizeOf_1 (l : Launch) (E : Ev) {I : SI} {L : SL} (d : Nat → Int32) (e_d : I (162) = d) : CS l yX9_sizeOf wsX9_sizeOf ({ frames := 1, cells := 0, slots := 0, locals := 20 }) E [.ref (E.2.2.2 161), .int (1 : Int32)] I L (fun vv I' L' => vv = some (.int (absM (d 74))) ∧ I' = I ∧ L' = L) := by
  refine CS.of (cc := cX9_sizeOf) (maxL := 3) (ret := (some .int)) (by decide) rfl (Nat.le_of_ble_eq_true rfl) ?_
  intro pg en sg mg below meth cg ls S hr hlk hX G hl
  have S : CallFix pg mg cg cX9_sizeOf 3 sg _ wsX9_sizeOf RX9 := S
  have hl : lv_has ls 3 [(0, .ref (E.2.2.2 161)), (1, .int (1 : Int32))] := hl
  refine lv_aload_n S.1 S.2.1 dX9_sizeOf_0 rfl (lv_at hl 0 rfl) ?_
  refine s_get S hX G (i := 161) (kd := 9) (a := (I 161)) (v := .ref (E.2.2.2 162)) (C := RX9) (T := TX9) (N := 13) 0 (rfl : sh 161 = 9) rfl rfl rfl (by decide) rfl (fun _ h => (List.mem_cons_of_mem _ (List.mem_append_right _ h))) (by decide) (List.mem_of_getElem? (i := 1) rfl) (fun _ h => h) dX9_sizeOf_1 ?_
  refine lv_iload_n S.1 S.2.1 dX9_sizeOf_4 rfl (lv_at hl 1 rfl) ?_
  refine s_callS (As := [.int (1 : Int32)]) (rest := [.ref (E.2.2.2 162)]) S hX G (k_X9_loadAt_1 l E) (va_cwS (bytes := cX9_loadAt) (maxL := 1) (ret := (some .int)) 1 S.2.2.2.2 gX9_sizeOf_X9_loadAt rfl rfl rfl (by decide +kernel) ⟨Nat.le_of_ble_eq_true rfl, Nat.le_of_ble_eq_true rfl⟩) rfl hl.1 rfl (Nat.le_of_ble_eq_true rfl) ⟨Nat.zero_le _, Nat.zero_le _⟩ dX9_sizeOf_5 (fun v I1 L1 H locs hR G => ?_)
  obtain ⟨hv, hI, hL⟩ := hR
  subst hv
  have G : GS E I L sg H locs := G.same hI hL
  refine W.eq (g2 := F0 mg 8 ls [.int (70 : Int32), .ref (E.2.2.2 162)]) rfl ?_
  refine lv_iconst (v := (4 : Int32)) S.1 S.2.1 dX9_sizeOf_8 (by decide) ?_
  refine s_iadd (v := (74 : Int32)) S dX9_sizeOf_9 (by decide) ?_
  refine s_iald S hX G (i := 162) (kd := 284) (n := 270) (a := d) (x := (d 74)) (rfl : sh 162 = 284) e_d rfl (by decide) (by unfold vp_in; decide) (congrArg d (by decide)) dX9_sizeOf_10 ?_
  refine lv_istore_n (lv' := [(2, .int (d 74)), (0, .ref (E.2.2.2 161)), (1, .int (1 : Int32))]) S.1 S.2.1 dX9_sizeOf_11 rfl hl (by decide) rfl (fun ls hl => ?_)
  refine lv_iload_n S.1 S.2.1 dX9_sizeOf_12 rfl (lv_at hl 0 rfl) ?_
  refine lv_if_ge (tgt := 21) S.1 S.2.1 dX9_sizeOf_13 (by decide) (fun c_1 => ?_) (fun c_1 => ?_)
  · refine lv_iload_n S.1 S.2.1 dX9_sizeOf_21 rfl (lv_at hl 0 rfl) ?_
    refine s_iret (x := (d 74)) S G hr hlk dX9_sizeOf_22 ?_
    exact ⟨(congrArg (fun q : Int32 => some (Value.int q)) (show (d 74) = (absM (d 74)) by first | (simp [absM, c_1]; done) | (clear S hX G hl; grind [absM]))), rfl, rfl⟩
  · refine lv_iload_n S.1 S.2.1 dX9_sizeOf_16 rfl (lv_at hl 0 rfl) ?_
    refine lv_ineg S.1 S.2.1 dX9_sizeOf_17 ?_
    refine lv_goto (tgt := 22) S.1 S.2.1 dX9_sizeOf_18 (by decide) ?_
    refine s_iret (x := (-(d 74))) S G hr hlk dX9_sizeOf_22 ?_
    exact ⟨(congrArg (fun q : Int32 => some (Value.int q)) (show (-(d 74)) = (absM (d 74)) by first | (simp [absM, c_1]; done) | (clear S hX G hl; grind [absM]))), rfl, rfl⟩
set_option maxHeartbeats 4000000 in
set_option maxRecDepth 100000 in
theorem k_X9_isLatched_1_0 (l : Launch) (E : Ev) {I : SI} {L : SL} (d : Nat → Int32) (e_d : I (162) = d) : CS l yX9_isLatched wsX9_isLatched ({ frames := 1, cells := 0, slots := 0, locals := 20 }) E [.ref (E.2.2.2 161), .int (1 : Int32), .int (0 : Int32)] I L (fun vv I' L' => vv = some (.int (if ¬ d 82 = -1 then 1 else 0)) ∧ I' = I ∧ L' = L) := by
  refine CS.of (cc := cX9_isLatched) (maxL := 3) (ret := (some .boolean)) (by decide) rfl (Nat.le_of_ble_eq_true rfl) ?_
  intro pg en sg mg below meth cg ls S hr hlk hX G hl
  have S : CallFix pg mg cg cX9_isLatched 3 sg _ wsX9_isLatched RX9 := S
  have hl : lv_has ls 3 [(0, .ref (E.2.2.2 161)), (1, .int (1 : Int32)), (2, .int (0 : Int32))] := hl
  refine lv_aload_n S.1 S.2.1 dX9_isLatched_0 rfl (lv_at hl 0 rfl) ?_
  refine s_get S hX G (i := 161) (kd := 9) (a := (I 161)) (v := .ref (E.2.2.2 162)) (C := RX9) (T := TX9) (N := 13) 0 (rfl : sh 161 = 9) rfl rfl rfl (by decide) rfl (fun _ h => (List.mem_cons_of_mem _ (List.mem_append_right _ h))) (by decide) (List.mem_of_getElem? (i := 1) rfl) (fun _ h => h) dX9_isLatched_1 ?_
  refine lv_iload_n S.1 S.2.1 dX9_isLatched_4 rfl (lv_at hl 1 rfl) ?_
  refine s_callS (As := [.int (1 : Int32)]) (rest := [.ref (E.2.2.2 162)]) S hX G (k_X9_loadAt_1 l E) (va_cwS (bytes := cX9_loadAt) (maxL := 1) (ret := (some .int)) 1 S.2.2.2.2 gX9_isLatched_X9_loadAt rfl rfl rfl (by decide +kernel) ⟨Nat.le_of_ble_eq_true rfl, Nat.le_of_ble_eq_true rfl⟩) rfl hl.1 rfl (Nat.le_of_ble_eq_true rfl) ⟨Nat.zero_le _, Nat.zero_le _⟩ dX9_isLatched_5 (fun v I1 L1 H locs hR G => ?_)
  obtain ⟨hv, hI, hL⟩ := hR
  subst hv
  have G : GS E I L sg H locs := G.same hI hL
  refine W.eq (g2 := F0 mg 8 ls [.int (70 : Int32), .ref (E.2.2.2 162)]) rfl ?_
  refine lv_bipush (v := (12 : Int32)) S.1 S.2.1 dX9_isLatched_8 (by decide) ?_
  refine s_iadd (v := (82 : Int32)) S dX9_isLatched_10 (by decide) ?_
  refine lv_iconst (v := (3 : Int32)) S.1 S.2.1 dX9_isLatched_11 (by decide) ?_
  refine lv_iload_n S.1 S.2.1 dX9_isLatched_12 rfl (lv_at hl 2 rfl) ?_
  refine s_imul (v := (0 : Int32)) S dX9_isLatched_13 (by decide) ?_
  refine s_iadd (v := (82 : Int32)) S dX9_isLatched_14 (by decide) ?_
  refine s_iald S hX G (i := 162) (kd := 284) (n := 270) (a := d) (x := (d 82)) (rfl : sh 162 = 284) e_d rfl (by decide) (by unfold vp_in; decide) (congrArg d (by decide)) dX9_isLatched_15 ?_
  refine lv_iconst (v := (-1 : Int32)) S.1 S.2.1 dX9_isLatched_16 (by decide) ?_
  refine lv_icmp_eq (tgt := 24) S.1 S.2.1 dX9_isLatched_17 (by decide) (fun c_1 => ?_) (fun c_1 => ?_)
  · refine lv_iconst (v := (0 : Int32)) S.1 S.2.1 dX9_isLatched_24 (by decide) ?_
    refine s_zret (x := (0 : Int32)) S G hr hlk dX9_isLatched_25 (Or.inl rfl) ?_
    exact ⟨(congrArg (fun q : Int32 => some (Value.int q)) (show (0 : Int32) = (if ¬ d 82 = -1 then 1 else 0) by first | (simp [c_1]; done) | (clear S hX G hl; grind []))), rfl, rfl⟩
  · refine lv_iconst (v := (1 : Int32)) S.1 S.2.1 dX9_isLatched_20 (by decide) ?_
    refine lv_goto (tgt := 25) S.1 S.2.1 dX9_isLatched_21 (by decide) ?_
    refine s_zret (x := (1 : Int32)) S G hr hlk dX9_isLatched_25 (Or.inr rfl) ?_
    exact ⟨(congrArg (fun q : Int32 => some (Value.int q)) (show (1 : Int32) = (if ¬ d 82 = -1 then 1 else 0) by first | (simp [c_1]; done) | (clear S hX G hl; grind []))), rfl, rfl⟩
set_option maxHeartbeats 4000000 in
set_option maxRecDepth 100000 in
theorem k_X9_isLatched_1_1 (l : Launch) (E : Ev) {I : SI} {L : SL} (d : Nat → Int32) (e_d : I (162) = d) : CS l yX9_isLatched wsX9_isLatched ({ frames := 1, cells := 0, slots := 0, locals := 20 }) E [.ref (E.2.2.2 161), .int (1 : Int32), .int (1 : Int32)] I L (fun vv I' L' => vv = some (.int (if ¬ d 85 = -1 then 1 else 0)) ∧ I' = I ∧ L' = L) := by
  refine CS.of (cc := cX9_isLatched) (maxL := 3) (ret := (some .boolean)) (by decide) rfl (Nat.le_of_ble_eq_true rfl) ?_
  intro pg en sg mg below meth cg ls S hr hlk hX G hl
  have S : CallFix pg mg cg cX9_isLatched 3 sg _ wsX9_isLatched RX9 := S
  have hl : lv_has ls 3 [(0, .ref (E.2.2.2 161)), (1, .int (1 : Int32)), (2, .int (1 : Int32))] := hl
  refine lv_aload_n S.1 S.2.1 dX9_isLatched_0 rfl (lv_at hl 0 rfl) ?_
  refine s_get S hX G (i := 161) (kd := 9) (a := (I 161)) (v := .ref (E.2.2.2 162)) (C := RX9) (T := TX9) (N := 13) 0 (rfl : sh 161 = 9) rfl rfl rfl (by decide) rfl (fun _ h => (List.mem_cons_of_mem _ (List.mem_append_right _ h))) (by decide) (List.mem_of_getElem? (i := 1) rfl) (fun _ h => h) dX9_isLatched_1 ?_
  refine lv_iload_n S.1 S.2.1 dX9_isLatched_4 rfl (lv_at hl 1 rfl) ?_
  refine s_callS (As := [.int (1 : Int32)]) (rest := [.ref (E.2.2.2 162)]) S hX G (k_X9_loadAt_1 l E) (va_cwS (bytes := cX9_loadAt) (maxL := 1) (ret := (some .int)) 1 S.2.2.2.2 gX9_isLatched_X9_loadAt rfl rfl rfl (by decide +kernel) ⟨Nat.le_of_ble_eq_true rfl, Nat.le_of_ble_eq_true rfl⟩) rfl hl.1 rfl (Nat.le_of_ble_eq_true rfl) ⟨Nat.zero_le _, Nat.zero_le _⟩ dX9_isLatched_5 (fun v I1 L1 H locs hR G => ?_)
  obtain ⟨hv, hI, hL⟩ := hR
  subst hv
  have G : GS E I L sg H locs := G.same hI hL
  refine W.eq (g2 := F0 mg 8 ls [.int (70 : Int32), .ref (E.2.2.2 162)]) rfl ?_
  refine lv_bipush (v := (12 : Int32)) S.1 S.2.1 dX9_isLatched_8 (by decide) ?_
  refine s_iadd (v := (82 : Int32)) S dX9_isLatched_10 (by decide) ?_
  refine lv_iconst (v := (3 : Int32)) S.1 S.2.1 dX9_isLatched_11 (by decide) ?_
  refine lv_iload_n S.1 S.2.1 dX9_isLatched_12 rfl (lv_at hl 2 rfl) ?_
  refine s_imul (v := (3 : Int32)) S dX9_isLatched_13 (by decide) ?_
  refine s_iadd (v := (85 : Int32)) S dX9_isLatched_14 (by decide) ?_
  refine s_iald S hX G (i := 162) (kd := 284) (n := 270) (a := d) (x := (d 85)) (rfl : sh 162 = 284) e_d rfl (by decide) (by unfold vp_in; decide) (congrArg d (by decide)) dX9_isLatched_15 ?_
  refine lv_iconst (v := (-1 : Int32)) S.1 S.2.1 dX9_isLatched_16 (by decide) ?_
  refine lv_icmp_eq (tgt := 24) S.1 S.2.1 dX9_isLatched_17 (by decide) (fun c_1 => ?_) (fun c_1 => ?_)
  · refine lv_iconst (v := (0 : Int32)) S.1 S.2.1 dX9_isLatched_24 (by decide) ?_
    refine s_zret (x := (0 : Int32)) S G hr hlk dX9_isLatched_25 (Or.inl rfl) ?_
    exact ⟨(congrArg (fun q : Int32 => some (Value.int q)) (show (0 : Int32) = (if ¬ d 85 = -1 then 1 else 0) by first | (simp [c_1]; done) | (clear S hX G hl; grind []))), rfl, rfl⟩
  · refine lv_iconst (v := (1 : Int32)) S.1 S.2.1 dX9_isLatched_20 (by decide) ?_
    refine lv_goto (tgt := 25) S.1 S.2.1 dX9_isLatched_21 (by decide) ?_
    refine s_zret (x := (1 : Int32)) S G hr hlk dX9_isLatched_25 (Or.inr rfl) ?_
    exact ⟨(congrArg (fun q : Int32 => some (Value.int q)) (show (1 : Int32) = (if ¬ d 85 = -1 then 1 else 0) by first | (simp [c_1]; done) | (clear S hX G hl; grind []))), rfl, rfl⟩
set_option maxHeartbeats 4000000 in
set_option maxRecDepth 100000 in
theorem k_X9_isLatched_1_2 (l : Launch) (E : Ev) {I : SI} {L : SL} (d : Nat → Int32) (e_d : I (162) = d) : CS l yX9_isLatched wsX9_isLatched ({ frames := 1, cells := 0, slots := 0, locals := 20 }) E [.ref (E.2.2.2 161), .int (1 : Int32), .int (2 : Int32)] I L (fun vv I' L' => vv = some (.int (if ¬ d 88 = -1 then 1 else 0)) ∧ I' = I ∧ L' = L) := by
  refine CS.of (cc := cX9_isLatched) (maxL := 3) (ret := (some .boolean)) (by decide) rfl (Nat.le_of_ble_eq_true rfl) ?_
  intro pg en sg mg below meth cg ls S hr hlk hX G hl
  have S : CallFix pg mg cg cX9_isLatched 3 sg _ wsX9_isLatched RX9 := S
  have hl : lv_has ls 3 [(0, .ref (E.2.2.2 161)), (1, .int (1 : Int32)), (2, .int (2 : Int32))] := hl
  refine lv_aload_n S.1 S.2.1 dX9_isLatched_0 rfl (lv_at hl 0 rfl) ?_
  refine s_get S hX G (i := 161) (kd := 9) (a := (I 161)) (v := .ref (E.2.2.2 162)) (C := RX9) (T := TX9) (N := 13) 0 (rfl : sh 161 = 9) rfl rfl rfl (by decide) rfl (fun _ h => (List.mem_cons_of_mem _ (List.mem_append_right _ h))) (by decide) (List.mem_of_getElem? (i := 1) rfl) (fun _ h => h) dX9_isLatched_1 ?_
  refine lv_iload_n S.1 S.2.1 dX9_isLatched_4 rfl (lv_at hl 1 rfl) ?_
  refine s_callS (As := [.int (1 : Int32)]) (rest := [.ref (E.2.2.2 162)]) S hX G (k_X9_loadAt_1 l E) (va_cwS (bytes := cX9_loadAt) (maxL := 1) (ret := (some .int)) 1 S.2.2.2.2 gX9_isLatched_X9_loadAt rfl rfl rfl (by decide +kernel) ⟨Nat.le_of_ble_eq_true rfl, Nat.le_of_ble_eq_true rfl⟩) rfl hl.1 rfl (Nat.le_of_ble_eq_true rfl) ⟨Nat.zero_le _, Nat.zero_le _⟩ dX9_isLatched_5 (fun v I1 L1 H locs hR G => ?_)
  obtain ⟨hv, hI, hL⟩ := hR
  subst hv
  have G : GS E I L sg H locs := G.same hI hL
  refine W.eq (g2 := F0 mg 8 ls [.int (70 : Int32), .ref (E.2.2.2 162)]) rfl ?_
  refine lv_bipush (v := (12 : Int32)) S.1 S.2.1 dX9_isLatched_8 (by decide) ?_
  refine s_iadd (v := (82 : Int32)) S dX9_isLatched_10 (by decide) ?_
  refine lv_iconst (v := (3 : Int32)) S.1 S.2.1 dX9_isLatched_11 (by decide) ?_
  refine lv_iload_n S.1 S.2.1 dX9_isLatched_12 rfl (lv_at hl 2 rfl) ?_
  refine s_imul (v := (6 : Int32)) S dX9_isLatched_13 (by decide) ?_
  refine s_iadd (v := (88 : Int32)) S dX9_isLatched_14 (by decide) ?_
  refine s_iald S hX G (i := 162) (kd := 284) (n := 270) (a := d) (x := (d 88)) (rfl : sh 162 = 284) e_d rfl (by decide) (by unfold vp_in; decide) (congrArg d (by decide)) dX9_isLatched_15 ?_
  refine lv_iconst (v := (-1 : Int32)) S.1 S.2.1 dX9_isLatched_16 (by decide) ?_
  refine lv_icmp_eq (tgt := 24) S.1 S.2.1 dX9_isLatched_17 (by decide) (fun c_1 => ?_) (fun c_1 => ?_)
  · refine lv_iconst (v := (0 : Int32)) S.1 S.2.1 dX9_isLatched_24 (by decide) ?_
    refine s_zret (x := (0 : Int32)) S G hr hlk dX9_isLatched_25 (Or.inl rfl) ?_
    exact ⟨(congrArg (fun q : Int32 => some (Value.int q)) (show (0 : Int32) = (if ¬ d 88 = -1 then 1 else 0) by first | (simp [c_1]; done) | (clear S hX G hl; grind []))), rfl, rfl⟩
  · refine lv_iconst (v := (1 : Int32)) S.1 S.2.1 dX9_isLatched_20 (by decide) ?_
    refine lv_goto (tgt := 25) S.1 S.2.1 dX9_isLatched_21 (by decide) ?_
    refine s_zret (x := (1 : Int32)) S G hr hlk dX9_isLatched_25 (Or.inr rfl) ?_
    exact ⟨(congrArg (fun q : Int32 => some (Value.int q)) (show (1 : Int32) = (if ¬ d 88 = -1 then 1 else 0) by first | (simp [c_1]; done) | (clear S hX G hl; grind []))), rfl, rfl⟩
set_option maxHeartbeats 4000000 in
set_option maxRecDepth 100000 in
theorem k_X9_latched_1 (l : Launch) (E : Ev) {I : SI} {L : SL} (d : Nat → Int32) (e_d : I (162) = d) : CS l yX9_latched wsX9_latched ({ frames := 2, cells := 0, slots := 0, locals := 42 }) E [.ref (E.2.2.2 161), .int (1 : Int32)] I L (fun vv I' L' => vv = some (.int (ltdF d 70)) ∧ I' = I ∧ L' = L) := by
  refine CS.of (cc := cX9_latched) (maxL := 4) (ret := (some .int)) (by decide) rfl (Nat.le_of_ble_eq_true rfl) ?_
  intro pg en sg mg below meth cg ls S hr hlk hX G hl
  have S : CallFix pg mg cg cX9_latched 4 sg _ wsX9_latched RX9 := S
  have hl : lv_has ls 4 [(0, .ref (E.2.2.2 161)), (1, .int (1 : Int32))] := hl
  refine lv_iconst (v := (0 : Int32)) S.1 S.2.1 dX9_latched_0 (by decide) ?_
  refine lv_istore_n (lv' := [(2, .int (0 : Int32)), (0, .ref (E.2.2.2 161)), (1, .int (1 : Int32))]) S.1 S.2.1 dX9_latched_1 rfl hl (by decide) rfl (fun ls hl => ?_)
  refine lv_iconst (v := (0 : Int32)) S.1 S.2.1 dX9_latched_2 (by decide) ?_
  refine lv_istore_n (lv' := [(3, .int (0 : Int32)), (2, .int (0 : Int32)), (0, .ref (E.2.2.2 161)), (1, .int (1 : Int32))]) S.1 S.2.1 dX9_latched_3 rfl hl (by decide) rfl (fun ls hl => ?_)
  refine s_cut (α := Int32) (nL := 4) (E := E) (fun x I' L' => x = ((0 : Int32) + (if ¬ d 82 = -1 then 1 else 0)) ∧ I' = I ∧ L' = L) (fun x => [(3, .int (1 : Int32)), (2, .int x), (0, .ref (E.2.2.2 161)), (1, .int (1 : Int32))]) 4 (fun x => []) (fun kJ_1 => ?_) (fun x I1 L1 H locs ls hP G hl => ?_)
  · refine lv_iload_n S.1 S.2.1 dX9_latched_4 rfl (lv_at hl 0 rfl) ?_
    refine lv_iconst (v := (3 : Int32)) S.1 S.2.1 dX9_latched_5 (by decide) ?_
    refine lv_icmp_ge (tgt := 32) S.1 S.2.1 dX9_latched_6 (by decide) (fun h => absurd h (by decide)) (fun _ => ?_)
    refine lv_iload_n S.1 S.2.1 dX9_latched_9 rfl (lv_at hl 1 rfl) ?_
    refine lv_aload_n S.1 S.2.1 dX9_latched_10 rfl (lv_at hl 2 rfl) ?_
    refine lv_iload_n S.1 S.2.1 dX9_latched_11 rfl (lv_at hl 3 rfl) ?_
    refine lv_iload_n S.1 S.2.1 dX9_latched_12 rfl (lv_at hl 0 rfl) ?_
    refine s_callV (C := RX9) (As := [.int (1 : Int32), .int (0 : Int32)]) (rest := [.int (0 : Int32)]) (i := 161) (kd := 9) S hX G (k_X9_isLatched_1_0 l E d e_d) (cwV (bytes := cX9_isLatched) (maxL := 3) (ret := (some .boolean)) 2 S.2.2.2.2 gX9_latched_X9_isLatched rfl rfl rfl (by decide +kernel) ⟨Nat.le_of_ble_eq_true rfl, Nat.le_of_ble_eq_true rfl⟩) (rfl : sh 161 = 9) rfl rfl rfl (by decide) rfl hl.1 rfl (Nat.le_of_ble_eq_true rfl) ⟨Nat.zero_le _, Nat.zero_le _⟩ dX9_latched_13 (fun v I1 L1 H locs hR G => ?_)
    obtain ⟨hv, hI, hL⟩ := hR
    subst hv
    have G : GS E I L sg H locs := G.same hI hL
    refine W.eq (g2 := F0 mg 16 ls [.int (if ¬ d 82 = -1 then 1 else 0), .int (0 : Int32)]) rfl ?_
    refine s_if_eq_b (P := ¬ d 82 = -1) (tgt := 23) S dX9_latched_16 (by decide) (fun c_2 => ?_) (fun c_2 => ?_)
    · refine lv_iconst (v := (0 : Int32)) S.1 S.2.1 dX9_latched_23 (by decide) ?_
      refine s_iadd (v := (0 : Int32)) S dX9_latched_24 (by decide) ?_
      refine lv_istore_n (lv' := [(2, .int (0 : Int32)), (3, .int (0 : Int32)), (0, .ref (E.2.2.2 161)), (1, .int (1 : Int32))]) S.1 S.2.1 dX9_latched_25 rfl hl (by decide) rfl (fun ls hl => ?_)
      refine lv_iinc (v := (1 : Int32)) (lv' := [(3, .int (1 : Int32)), (2, .int (0 : Int32)), (0, .ref (E.2.2.2 161)), (1, .int (1 : Int32))]) S.1 S.2.1 dX9_latched_26 hl (k := 1) rfl (by decide) (by decide) rfl (fun ls hl => ?_)
      refine lv_goto (tgt := 4) S.1 S.2.1 dX9_latched_29 (by decide) ?_
      exact kJ_1 (0 : Int32) _ _ _ _ _ ⟨(show (0 : Int32) = (0 : Int32) + (if ¬ d 82 = -1 then 1 else 0) by first | rfl | exact ite_p c_2 _ | exact ite_p0 c_2 | exact ite_z c_2 _ | exact ite_z0 c_2), rfl, rfl⟩ G (lv_sub hl [0, 1, 2, 3] rfl)
    · refine lv_iconst (v := (1 : Int32)) S.1 S.2.1 dX9_latched_19 (by decide) ?_
      refine lv_goto (tgt := 24) S.1 S.2.1 dX9_latched_20 (by decide) ?_
      refine s_iadd (v := (1 : Int32)) S dX9_latched_24 (by decide) ?_
      refine lv_istore_n (lv' := [(2, .int (1 : Int32)), (3, .int (0 : Int32)), (0, .ref (E.2.2.2 161)), (1, .int (1 : Int32))]) S.1 S.2.1 dX9_latched_25 rfl hl (by decide) rfl (fun ls hl => ?_)
      refine lv_iinc (v := (1 : Int32)) (lv' := [(3, .int (1 : Int32)), (2, .int (1 : Int32)), (0, .ref (E.2.2.2 161)), (1, .int (1 : Int32))]) S.1 S.2.1 dX9_latched_26 hl (k := 1) rfl (by decide) (by decide) rfl (fun ls hl => ?_)
      refine lv_goto (tgt := 4) S.1 S.2.1 dX9_latched_29 (by decide) ?_
      exact kJ_1 (1 : Int32) _ _ _ _ _ ⟨(show (1 : Int32) = (0 : Int32) + (if ¬ d 82 = -1 then 1 else 0) by first | rfl | exact ite_p c_2 _ | exact ite_p0 c_2 | exact ite_z c_2 _ | exact ite_z0 c_2), rfl, rfl⟩ G (lv_sub hl [0, 1, 2, 3] rfl)
  · obtain ⟨h0, hI, hL⟩ := hP
    have h0 : x = ((0 : Int32) + (if ¬ d 82 = -1 then 1 else 0)) := h0
    have hl : lv_has ls 4 [(3, .int (1 : Int32)), (2, .int x), (0, .ref (E.2.2.2 161)), (1, .int (1 : Int32))] := hl
    subst h0
    have G : GS E I L sg H locs := G.same hI hL
    refine W.eq (g2 := F0 mg 4 ls []) rfl ?_
    refine s_cut (α := Int32) (nL := 4) (E := E) (fun x I' L' => x = (((0 : Int32) + (if ¬ d 82 = -1 then 1 else 0)) + (if ¬ d 85 = -1 then 1 else 0)) ∧ I' = I ∧ L' = L) (fun x => [(3, .int (2 : Int32)), (2, .int x), (0, .ref (E.2.2.2 161)), (1, .int (1 : Int32))]) 4 (fun x => []) (fun kJ_3 => ?_) (fun x I1 L1 H locs ls hP G hl => ?_)
    · refine lv_iload_n S.1 S.2.1 dX9_latched_4 rfl (lv_at hl 0 rfl) ?_
      refine lv_iconst (v := (3 : Int32)) S.1 S.2.1 dX9_latched_5 (by decide) ?_
      refine lv_icmp_ge (tgt := 32) S.1 S.2.1 dX9_latched_6 (by decide) (fun h => absurd h (by decide)) (fun _ => ?_)
      refine lv_iload_n S.1 S.2.1 dX9_latched_9 rfl (lv_at hl 1 rfl) ?_
      refine lv_aload_n S.1 S.2.1 dX9_latched_10 rfl (lv_at hl 2 rfl) ?_
      refine lv_iload_n S.1 S.2.1 dX9_latched_11 rfl (lv_at hl 3 rfl) ?_
      refine lv_iload_n S.1 S.2.1 dX9_latched_12 rfl (lv_at hl 0 rfl) ?_
      refine s_callV (C := RX9) (As := [.int (1 : Int32), .int (1 : Int32)]) (rest := [.int ((0 : Int32) + (if ¬ d 82 = -1 then 1 else 0))]) (i := 161) (kd := 9) S hX G (k_X9_isLatched_1_1 l E d e_d) (cwV (bytes := cX9_isLatched) (maxL := 3) (ret := (some .boolean)) 2 S.2.2.2.2 gX9_latched_X9_isLatched rfl rfl rfl (by decide +kernel) ⟨Nat.le_of_ble_eq_true rfl, Nat.le_of_ble_eq_true rfl⟩) (rfl : sh 161 = 9) rfl rfl rfl (by decide) rfl hl.1 rfl (Nat.le_of_ble_eq_true rfl) ⟨Nat.zero_le _, Nat.zero_le _⟩ dX9_latched_13 (fun v I1 L1 H locs hR G => ?_)
      obtain ⟨hv, hI, hL⟩ := hR
      subst hv
      have G : GS E I L sg H locs := G.same hI hL
      refine W.eq (g2 := F0 mg 16 ls [.int (if ¬ d 85 = -1 then 1 else 0), .int ((0 : Int32) + (if ¬ d 82 = -1 then 1 else 0))]) rfl ?_
      refine s_if_eq_b (P := ¬ d 85 = -1) (tgt := 23) S dX9_latched_16 (by decide) (fun c_4 => ?_) (fun c_4 => ?_)
      · refine lv_iconst (v := (0 : Int32)) S.1 S.2.1 dX9_latched_23 (by decide) ?_
        refine s_iadd (v := (((0 : Int32) + (if ¬ d 82 = -1 then 1 else 0)) + (0 : Int32))) S dX9_latched_24 rfl ?_
        refine lv_istore_n (lv' := [(2, .int (((0 : Int32) + (if ¬ d 82 = -1 then 1 else 0)) + (0 : Int32))), (3, .int (1 : Int32)), (0, .ref (E.2.2.2 161)), (1, .int (1 : Int32))]) S.1 S.2.1 dX9_latched_25 rfl hl (by decide) rfl (fun ls hl => ?_)
        refine lv_iinc (v := (2 : Int32)) (lv' := [(3, .int (2 : Int32)), (2, .int (((0 : Int32) + (if ¬ d 82 = -1 then 1 else 0)) + (0 : Int32))), (0, .ref (E.2.2.2 161)), (1, .int (1 : Int32))]) S.1 S.2.1 dX9_latched_26 hl (k := 1) rfl (by decide) (by decide) rfl (fun ls hl => ?_)
        refine lv_goto (tgt := 4) S.1 S.2.1 dX9_latched_29 (by decide) ?_
        exact kJ_3 (((0 : Int32) + (if ¬ d 82 = -1 then 1 else 0)) + (0 : Int32)) _ _ _ _ _ ⟨(show (((0 : Int32) + (if ¬ d 82 = -1 then 1 else 0)) + (0 : Int32)) = ((0 : Int32) + (if ¬ d 82 = -1 then 1 else 0)) + (if ¬ d 85 = -1 then 1 else 0) by first | rfl | exact ite_p c_4 _ | exact ite_p0 c_4 | exact ite_z c_4 _ | exact ite_z0 c_4), rfl, rfl⟩ G (lv_sub hl [0, 1, 2, 3] rfl)
      · refine lv_iconst (v := (1 : Int32)) S.1 S.2.1 dX9_latched_19 (by decide) ?_
        refine lv_goto (tgt := 24) S.1 S.2.1 dX9_latched_20 (by decide) ?_
        refine s_iadd (v := (((0 : Int32) + (if ¬ d 82 = -1 then 1 else 0)) + (1 : Int32))) S dX9_latched_24 rfl ?_
        refine lv_istore_n (lv' := [(2, .int (((0 : Int32) + (if ¬ d 82 = -1 then 1 else 0)) + (1 : Int32))), (3, .int (1 : Int32)), (0, .ref (E.2.2.2 161)), (1, .int (1 : Int32))]) S.1 S.2.1 dX9_latched_25 rfl hl (by decide) rfl (fun ls hl => ?_)
        refine lv_iinc (v := (2 : Int32)) (lv' := [(3, .int (2 : Int32)), (2, .int (((0 : Int32) + (if ¬ d 82 = -1 then 1 else 0)) + (1 : Int32))), (0, .ref (E.2.2.2 161)), (1, .int (1 : Int32))]) S.1 S.2.1 dX9_latched_26 hl (k := 1) rfl (by decide) (by decide) rfl (fun ls hl => ?_)
        refine lv_goto (tgt := 4) S.1 S.2.1 dX9_latched_29 (by decide) ?_
        exact kJ_3 (((0 : Int32) + (if ¬ d 82 = -1 then 1 else 0)) + (1 : Int32)) _ _ _ _ _ ⟨(show (((0 : Int32) + (if ¬ d 82 = -1 then 1 else 0)) + (1 : Int32)) = ((0 : Int32) + (if ¬ d 82 = -1 then 1 else 0)) + (if ¬ d 85 = -1 then 1 else 0) by first | rfl | exact ite_p c_4 _ | exact ite_p0 c_4 | exact ite_z c_4 _ | exact ite_z0 c_4), rfl, rfl⟩ G (lv_sub hl [0, 1, 2, 3] rfl)
    · obtain ⟨h0, hI, hL⟩ := hP
      have h0 : x = (((0 : Int32) + (if ¬ d 82 = -1 then 1 else 0)) + (if ¬ d 85 = -1 then 1 else 0)) := h0
      have hl : lv_has ls 4 [(3, .int (2 : Int32)), (2, .int x), (0, .ref (E.2.2.2 161)), (1, .int (1 : Int32))] := hl
      subst h0
      have G : GS E I L sg H locs := G.same hI hL
      refine W.eq (g2 := F0 mg 4 ls []) rfl ?_
      refine s_cut (α := Int32) (nL := 4) (E := E) (fun x I' L' => x = ((((0 : Int32) + (if ¬ d 82 = -1 then 1 else 0)) + (if ¬ d 85 = -1 then 1 else 0)) + (if ¬ d 88 = -1 then 1 else 0)) ∧ I' = I ∧ L' = L) (fun x => [(3, .int (3 : Int32)), (2, .int x), (0, .ref (E.2.2.2 161)), (1, .int (1 : Int32))]) 4 (fun x => []) (fun kJ_5 => ?_) (fun x I1 L1 H locs ls hP G hl => ?_)
      · refine lv_iload_n S.1 S.2.1 dX9_latched_4 rfl (lv_at hl 0 rfl) ?_
        refine lv_iconst (v := (3 : Int32)) S.1 S.2.1 dX9_latched_5 (by decide) ?_
        refine lv_icmp_ge (tgt := 32) S.1 S.2.1 dX9_latched_6 (by decide) (fun h => absurd h (by decide)) (fun _ => ?_)
        refine lv_iload_n S.1 S.2.1 dX9_latched_9 rfl (lv_at hl 1 rfl) ?_
        refine lv_aload_n S.1 S.2.1 dX9_latched_10 rfl (lv_at hl 2 rfl) ?_
        refine lv_iload_n S.1 S.2.1 dX9_latched_11 rfl (lv_at hl 3 rfl) ?_
        refine lv_iload_n S.1 S.2.1 dX9_latched_12 rfl (lv_at hl 0 rfl) ?_
        refine s_callV (C := RX9) (As := [.int (1 : Int32), .int (2 : Int32)]) (rest := [.int (((0 : Int32) + (if ¬ d 82 = -1 then 1 else 0)) + (if ¬ d 85 = -1 then 1 else 0))]) (i := 161) (kd := 9) S hX G (k_X9_isLatched_1_2 l E d e_d) (cwV (bytes := cX9_isLatched) (maxL := 3) (ret := (some .boolean)) 2 S.2.2.2.2 gX9_latched_X9_isLatched rfl rfl rfl (by decide +kernel) ⟨Nat.le_of_ble_eq_true rfl, Nat.le_of_ble_eq_true rfl⟩) (rfl : sh 161 = 9) rfl rfl rfl (by decide) rfl hl.1 rfl (Nat.le_of_ble_eq_true rfl) ⟨Nat.zero_le _, Nat.zero_le _⟩ dX9_latched_13 (fun v I1 L1 H locs hR G => ?_)
        obtain ⟨hv, hI, hL⟩ := hR
        subst hv
        have G : GS E I L sg H locs := G.same hI hL
        refine W.eq (g2 := F0 mg 16 ls [.int (if ¬ d 88 = -1 then 1 else 0), .int (((0 : Int32) + (if ¬ d 82 = -1 then 1 else 0)) + (if ¬ d 85 = -1 then 1 else 0))]) rfl ?_
        refine s_if_eq_b (P := ¬ d 88 = -1) (tgt := 23) S dX9_latched_16 (by decide) (fun c_6 => ?_) (fun c_6 => ?_)
        · refine lv_iconst (v := (0 : Int32)) S.1 S.2.1 dX9_latched_23 (by decide) ?_
          refine s_iadd (v := ((((0 : Int32) + (if ¬ d 82 = -1 then 1 else 0)) + (if ¬ d 85 = -1 then 1 else 0)) + (0 : Int32))) S dX9_latched_24 rfl ?_
          refine lv_istore_n (lv' := [(2, .int ((((0 : Int32) + (if ¬ d 82 = -1 then 1 else 0)) + (if ¬ d 85 = -1 then 1 else 0)) + (0 : Int32))), (3, .int (2 : Int32)), (0, .ref (E.2.2.2 161)), (1, .int (1 : Int32))]) S.1 S.2.1 dX9_latched_25 rfl hl (by decide) rfl (fun ls hl => ?_)
          refine lv_iinc (v := (3 : Int32)) (lv' := [(3, .int (3 : Int32)), (2, .int ((((0 : Int32) + (if ¬ d 82 = -1 then 1 else 0)) + (if ¬ d 85 = -1 then 1 else 0)) + (0 : Int32))), (0, .ref (E.2.2.2 161)), (1, .int (1 : Int32))]) S.1 S.2.1 dX9_latched_26 hl (k := 1) rfl (by decide) (by decide) rfl (fun ls hl => ?_)
          refine lv_goto (tgt := 4) S.1 S.2.1 dX9_latched_29 (by decide) ?_
          exact kJ_5 ((((0 : Int32) + (if ¬ d 82 = -1 then 1 else 0)) + (if ¬ d 85 = -1 then 1 else 0)) + (0 : Int32)) _ _ _ _ _ ⟨(show ((((0 : Int32) + (if ¬ d 82 = -1 then 1 else 0)) + (if ¬ d 85 = -1 then 1 else 0)) + (0 : Int32)) = (((0 : Int32) + (if ¬ d 82 = -1 then 1 else 0)) + (if ¬ d 85 = -1 then 1 else 0)) + (if ¬ d 88 = -1 then 1 else 0) by first | rfl | exact ite_p c_6 _ | exact ite_p0 c_6 | exact ite_z c_6 _ | exact ite_z0 c_6), rfl, rfl⟩ G (lv_sub hl [0, 1, 2, 3] rfl)
        · refine lv_iconst (v := (1 : Int32)) S.1 S.2.1 dX9_latched_19 (by decide) ?_
          refine lv_goto (tgt := 24) S.1 S.2.1 dX9_latched_20 (by decide) ?_
          refine s_iadd (v := ((((0 : Int32) + (if ¬ d 82 = -1 then 1 else 0)) + (if ¬ d 85 = -1 then 1 else 0)) + (1 : Int32))) S dX9_latched_24 rfl ?_
          refine lv_istore_n (lv' := [(2, .int ((((0 : Int32) + (if ¬ d 82 = -1 then 1 else 0)) + (if ¬ d 85 = -1 then 1 else 0)) + (1 : Int32))), (3, .int (2 : Int32)), (0, .ref (E.2.2.2 161)), (1, .int (1 : Int32))]) S.1 S.2.1 dX9_latched_25 rfl hl (by decide) rfl (fun ls hl => ?_)
          refine lv_iinc (v := (3 : Int32)) (lv' := [(3, .int (3 : Int32)), (2, .int ((((0 : Int32) + (if ¬ d 82 = -1 then 1 else 0)) + (if ¬ d 85 = -1 then 1 else 0)) + (1 : Int32))), (0, .ref (E.2.2.2 161)), (1, .int (1 : Int32))]) S.1 S.2.1 dX9_latched_26 hl (k := 1) rfl (by decide) (by decide) rfl (fun ls hl => ?_)
          refine lv_goto (tgt := 4) S.1 S.2.1 dX9_latched_29 (by decide) ?_
          exact kJ_5 ((((0 : Int32) + (if ¬ d 82 = -1 then 1 else 0)) + (if ¬ d 85 = -1 then 1 else 0)) + (1 : Int32)) _ _ _ _ _ ⟨(show ((((0 : Int32) + (if ¬ d 82 = -1 then 1 else 0)) + (if ¬ d 85 = -1 then 1 else 0)) + (1 : Int32)) = (((0 : Int32) + (if ¬ d 82 = -1 then 1 else 0)) + (if ¬ d 85 = -1 then 1 else 0)) + (if ¬ d 88 = -1 then 1 else 0) by first | rfl | exact ite_p c_6 _ | exact ite_p0 c_6 | exact ite_z c_6 _ | exact ite_z0 c_6), rfl, rfl⟩ G (lv_sub hl [0, 1, 2, 3] rfl)
      · obtain ⟨h0, hI, hL⟩ := hP
        have h0 : x = ((((0 : Int32) + (if ¬ d 82 = -1 then 1 else 0)) + (if ¬ d 85 = -1 then 1 else 0)) + (if ¬ d 88 = -1 then 1 else 0)) := h0
        have hl : lv_has ls 4 [(3, .int (3 : Int32)), (2, .int x), (0, .ref (E.2.2.2 161)), (1, .int (1 : Int32))] := hl
        subst h0
        have G : GS E I L sg H locs := G.same hI hL
        refine W.eq (g2 := F0 mg 4 ls []) rfl ?_
        refine lv_iload_n S.1 S.2.1 dX9_latched_4 rfl (lv_at hl 0 rfl) ?_
        refine lv_iconst (v := (3 : Int32)) S.1 S.2.1 dX9_latched_5 (by decide) ?_
        refine lv_icmp_ge (tgt := 32) S.1 S.2.1 dX9_latched_6 (by decide) (fun _ => ?_) (fun h => absurd (by decide) h)
        refine lv_iload_n S.1 S.2.1 dX9_latched_32 rfl (lv_at hl 1 rfl) ?_
        refine s_iret (x := ((((0 : Int32) + (if ¬ d 82 = -1 then 1 else 0)) + (if ¬ d 85 = -1 then 1 else 0)) + (if ¬ d 88 = -1 then 1 else 0))) S G hr hlk dX9_latched_33 ?_
        exact ⟨(congrArg (fun q : Int32 => some (Value.int q)) (show ((((0 : Int32) + (if ¬ d 82 = -1 then 1 else 0)) + (if ¬ d 85 = -1 then 1 else 0)) + (if ¬ d 88 = -1 then 1 else 0)) = (ltdF d 70) by rfl)), rfl, rfl⟩
