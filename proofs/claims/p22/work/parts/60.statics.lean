def absI (x : Int32) : Int32 := if 0 ≤ x then x else 0 - x
def maxI (a b : Int32) : Int32 := if a < b then b else a
def minI (a b : Int32) : Int32 := if b < a then b else a
def maxL (a b : Int64) : Int64 := if b < a then a else b
def minL (a b : Int64) : Int64 := if b < a then b else a
set_option maxHeartbeats 4000000 in
set_option maxRecDepth 100000 in
theorem k_X8_isWithin (l : Launch) (E : Ev) {I : SI} {L : SL} (value : Int32) (lowest : Int32) (highest : Int32) : CS l yX8_isWithin wsX8_isWithin ({ frames := 0, cells := 0, slots := 0, locals := 0 }) E [.int value, .int lowest, .int highest] I L (fun vv I' L' => vv = some (.int (if ¬ value < lowest ∧ ¬ highest < value then 1 else 0)) ∧ I' = I ∧ L' = L) := by
  refine CS.of (cc := cX8_isWithin) (maxL := 3) (ret := (some .boolean)) (by decide) rfl (Nat.le_of_ble_eq_true rfl) ?_
  intro pg en sg mg below meth cg ls S hr hlk hX G hl
  have S : CallFix pg mg cg cX8_isWithin 3 sg _ wsX8_isWithin RX8 := S
  have hl : lv_has ls 3 [(0, .int value), (1, .int lowest), (2, .int highest)] := hl
  refine lv_iload_n S.1 S.2.1 dX8_isWithin_0 rfl (lv_at hl 0 rfl) ?_
  refine lv_iload_n S.1 S.2.1 dX8_isWithin_1 rfl (lv_at hl 1 rfl) ?_
  refine lv_icmp_lt (tgt := 14) S.1 S.2.1 dX8_isWithin_2 (by decide) (fun c_1 => ?_) (fun c_1 => ?_)
  · refine lv_iconst (v := (0 : Int32)) S.1 S.2.1 dX8_isWithin_14 (by decide) ?_
    refine s_zret (x := (0 : Int32)) S G hr hlk dX8_isWithin_15 (Or.inl rfl) ?_
    exact ⟨(congrArg (fun q : Int32 => some (Value.int q)) (show (0 : Int32) = (if ¬ value < lowest ∧ ¬ highest < value then 1 else 0) by first | (simp [c_1]; done) | (clear S hX G hl; grind []))), rfl, rfl⟩
  · refine lv_iload_n S.1 S.2.1 dX8_isWithin_5 rfl (lv_at hl 0 rfl) ?_
    refine lv_iload_n S.1 S.2.1 dX8_isWithin_6 rfl (lv_at hl 2 rfl) ?_
    refine lv_icmp_gt (tgt := 14) S.1 S.2.1 dX8_isWithin_7 (by decide) (fun c_2 => ?_) (fun c_2 => ?_)
    · refine lv_iconst (v := (0 : Int32)) S.1 S.2.1 dX8_isWithin_14 (by decide) ?_
      refine s_zret (x := (0 : Int32)) S G hr hlk dX8_isWithin_15 (Or.inl rfl) ?_
      exact ⟨(congrArg (fun q : Int32 => some (Value.int q)) (show (0 : Int32) = (if ¬ value < lowest ∧ ¬ highest < value then 1 else 0) by first | (simp [c_1, c_2]; done) | (clear S hX G hl; grind []))), rfl, rfl⟩
    · refine lv_iconst (v := (1 : Int32)) S.1 S.2.1 dX8_isWithin_10 (by decide) ?_
      refine lv_goto (tgt := 15) S.1 S.2.1 dX8_isWithin_11 (by decide) ?_
      refine s_zret (x := (1 : Int32)) S G hr hlk dX8_isWithin_15 (Or.inr rfl) ?_
      exact ⟨(congrArg (fun q : Int32 => some (Value.int q)) (show (1 : Int32) = (if ¬ value < lowest ∧ ¬ highest < value then 1 else 0) by first | (simp [c_1, c_2]; done) | (clear S hX G hl; grind []))), rfl, rfl⟩
set_option maxHeartbeats 4000000 in
set_option maxRecDepth 100000 in
theorem k_X8_isLeg (l : Launch) (E : Ev) {I : SI} {L : SL} (leg : Int32) : CS l yX8_isLeg wsX8_isLeg ({ frames := 1, cells := 0, slots := 0, locals := 22 }) E [.int leg] I L (fun vv I' L' => vv = some (.int (if ¬ leg < (0 : Int32) ∧ ¬ (3 : Int32) < leg then 1 else 0)) ∧ I' = I ∧ L' = L) := by
  refine CS.of (cc := cX8_isLeg) (maxL := 1) (ret := (some .boolean)) (by decide) rfl (Nat.le_of_ble_eq_true rfl) ?_
  intro pg en sg mg below meth cg ls S hr hlk hX G hl
  have S : CallFix pg mg cg cX8_isLeg 1 sg _ wsX8_isLeg RX8 := S
  have hl : lv_has ls 1 [(0, .int leg)] := hl
  refine lv_iload_n S.1 S.2.1 dX8_isLeg_0 rfl (lv_at hl 0 rfl) ?_
  refine lv_iconst (v := (0 : Int32)) S.1 S.2.1 dX8_isLeg_1 (by decide) ?_
  refine lv_iconst (v := (3 : Int32)) S.1 S.2.1 dX8_isLeg_2 (by decide) ?_
  refine s_callS (As := [.int leg, .int (0 : Int32), .int (3 : Int32)]) (rest := []) S hX G (k_X8_isWithin l E leg (0 : Int32) (3 : Int32)) (va_cwS (bytes := cX8_isWithin) (maxL := 3) (ret := (some .boolean)) 3 S.2.2.2.2 gX8_isLeg_X8_isWithin rfl rfl rfl (by decide +kernel) ⟨Nat.le_of_ble_eq_true rfl, Nat.le_of_ble_eq_true rfl⟩) rfl hl.1 rfl (Nat.le_of_ble_eq_true rfl) ⟨Nat.zero_le _, Nat.zero_le _⟩ dX8_isLeg_3 (fun v I1 L1 H locs hR G => ?_)
  obtain ⟨hv, hI, hL⟩ := hR
  subst hv
  have G : GS E I L sg H locs := G.same hI hL
  refine W.eq (g2 := F0 mg 6 ls [.int (if ¬ leg < (0 : Int32) ∧ ¬ (3 : Int32) < leg then 1 else 0)]) rfl ?_
  refine s_zret (x := (if ¬ leg < (0 : Int32) ∧ ¬ (3 : Int32) < leg then 1 else 0)) S G hr hlk dX8_isLeg_6 isb_ite ?_
  exact ⟨rfl, rfl, rfl⟩
set_option maxHeartbeats 4000000 in
set_option maxRecDepth 100000 in
theorem k_X8_isLoad (l : Launch) (E : Ev) {I : SI} {L : SL} (load : Int32) : CS l yX8_isLoad wsX8_isLoad ({ frames := 1, cells := 0, slots := 0, locals := 22 }) E [.int load] I L (fun vv I' L' => vv = some (.int (if ¬ load < (0 : Int32) ∧ ¬ (1 : Int32) < load then 1 else 0)) ∧ I' = I ∧ L' = L) := by
  refine CS.of (cc := cX8_isLoad) (maxL := 1) (ret := (some .boolean)) (by decide) rfl (Nat.le_of_ble_eq_true rfl) ?_
  intro pg en sg mg below meth cg ls S hr hlk hX G hl
  have S : CallFix pg mg cg cX8_isLoad 1 sg _ wsX8_isLoad RX8 := S
  have hl : lv_has ls 1 [(0, .int load)] := hl
  refine lv_iload_n S.1 S.2.1 dX8_isLoad_0 rfl (lv_at hl 0 rfl) ?_
  refine lv_iconst (v := (0 : Int32)) S.1 S.2.1 dX8_isLoad_1 (by decide) ?_
  refine lv_iconst (v := (1 : Int32)) S.1 S.2.1 dX8_isLoad_2 (by decide) ?_
  refine s_callS (As := [.int load, .int (0 : Int32), .int (1 : Int32)]) (rest := []) S hX G (k_X8_isWithin l E load (0 : Int32) (1 : Int32)) (va_cwS (bytes := cX8_isWithin) (maxL := 3) (ret := (some .boolean)) 3 S.2.2.2.2 gX8_isLoad_X8_isWithin rfl rfl rfl (by decide +kernel) ⟨Nat.le_of_ble_eq_true rfl, Nat.le_of_ble_eq_true rfl⟩) rfl hl.1 rfl (Nat.le_of_ble_eq_true rfl) ⟨Nat.zero_le _, Nat.zero_le _⟩ dX8_isLoad_3 (fun v I1 L1 H locs hR G => ?_)
  obtain ⟨hv, hI, hL⟩ := hR
  subst hv
  have G : GS E I L sg H locs := G.same hI hL
  refine W.eq (g2 := F0 mg 6 ls [.int (if ¬ load < (0 : Int32) ∧ ¬ (1 : Int32) < load then 1 else 0)]) rfl ?_
  refine s_zret (x := (if ¬ load < (0 : Int32) ∧ ¬ (1 : Int32) < load then 1 else 0)) S G hr hlk dX8_isLoad_6 isb_ite ?_
  exact ⟨rfl, rfl, rfl⟩
set_option maxHeartbeats 4000000 in
set_option maxRecDepth 100000 in
theorem k_X8_isFault (l : Launch) (E : Ev) {I : SI} {L : SL} (fault : Int32) : CS l yX8_isFault wsX8_isFault ({ frames := 1, cells := 0, slots := 0, locals := 22 }) E [.int fault] I L (fun vv I' L' => vv = some (.int (if ¬ fault < (0 : Int32) ∧ ¬ (2 : Int32) < fault then 1 else 0)) ∧ I' = I ∧ L' = L) := by
  refine CS.of (cc := cX8_isFault) (maxL := 1) (ret := (some .boolean)) (by decide) rfl (Nat.le_of_ble_eq_true rfl) ?_
  intro pg en sg mg below meth cg ls S hr hlk hX G hl
  have S : CallFix pg mg cg cX8_isFault 1 sg _ wsX8_isFault RX8 := S
  have hl : lv_has ls 1 [(0, .int fault)] := hl
  refine lv_iload_n S.1 S.2.1 dX8_isFault_0 rfl (lv_at hl 0 rfl) ?_
  refine lv_iconst (v := (0 : Int32)) S.1 S.2.1 dX8_isFault_1 (by decide) ?_
  refine lv_iconst (v := (2 : Int32)) S.1 S.2.1 dX8_isFault_2 (by decide) ?_
  refine s_callS (As := [.int fault, .int (0 : Int32), .int (2 : Int32)]) (rest := []) S hX G (k_X8_isWithin l E fault (0 : Int32) (2 : Int32)) (va_cwS (bytes := cX8_isWithin) (maxL := 3) (ret := (some .boolean)) 3 S.2.2.2.2 gX8_isFault_X8_isWithin rfl rfl rfl (by decide +kernel) ⟨Nat.le_of_ble_eq_true rfl, Nat.le_of_ble_eq_true rfl⟩) rfl hl.1 rfl (Nat.le_of_ble_eq_true rfl) ⟨Nat.zero_le _, Nat.zero_le _⟩ dX8_isFault_3 (fun v I1 L1 H locs hR G => ?_)
  obtain ⟨hv, hI, hL⟩ := hR
  subst hv
  have G : GS E I L sg H locs := G.same hI hL
  refine W.eq (g2 := F0 mg 6 ls [.int (if ¬ fault < (0 : Int32) ∧ ¬ (2 : Int32) < fault then 1 else 0)]) rfl ?_
  refine s_zret (x := (if ¬ fault < (0 : Int32) ∧ ¬ (2 : Int32) < fault then 1 else 0)) S G hr hlk dX8_isFault_6 isb_ite ?_
  exact ⟨rfl, rfl, rfl⟩
set_option maxHeartbeats 4000000 in
set_option maxRecDepth 100000 in
theorem k_X8_bit (l : Launch) (E : Ev) {I : SI} {L : SL} (yes : Int32) (hb : isb yes) : CS l yX8_bit wsX8_bit ({ frames := 0, cells := 0, slots := 0, locals := 0 }) E [.int yes] I L (fun vv I' L' => vv = some (.int yes) ∧ I' = I ∧ L' = L) := by
  refine CS.of (cc := cX8_bit) (maxL := 1) (ret := (some .int)) (by decide) rfl (Nat.le_of_ble_eq_true rfl) ?_
  intro pg en sg mg below meth cg ls S hr hlk hX G hl
  have S : CallFix pg mg cg cX8_bit 1 sg _ wsX8_bit RX8 := S
  have hl : lv_has ls 1 [(0, .int yes)] := hl
  refine lv_iload_n S.1 S.2.1 dX8_bit_0 rfl (lv_at hl 0 rfl) ?_
  refine lv_if_eq (tgt := 8) S.1 S.2.1 dX8_bit_1 (by decide) (fun c_1 => ?_) (fun c_1 => ?_)
  · refine lv_iconst (v := (0 : Int32)) S.1 S.2.1 dX8_bit_8 (by decide) ?_
    refine s_iret (x := (0 : Int32)) S G hr hlk dX8_bit_9 ?_
    exact ⟨(congrArg (fun q : Int32 => some (Value.int q)) (show (0 : Int32) = yes by rcases hb with rfl | rfl <;> simp at c_1 ⊢)), rfl, rfl⟩
  · refine lv_iconst (v := (1 : Int32)) S.1 S.2.1 dX8_bit_4 (by decide) ?_
    refine lv_goto (tgt := 9) S.1 S.2.1 dX8_bit_5 (by decide) ?_
    refine s_iret (x := (1 : Int32)) S G hr hlk dX8_bit_9 ?_
    exact ⟨(congrArg (fun q : Int32 => some (Value.int q)) (show (1 : Int32) = yes by rcases hb with rfl | rfl <;> simp at c_1 ⊢)), rfl, rfl⟩
