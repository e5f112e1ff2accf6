def chr (x : Int32) : Prop := narrow .char (.int x) = .int x
/-- the slots that the digits ahead of a place tell: k signs are left, s told, w the weight -/
def sbL (g : Nat → Int32) : Nat → Int32 → Int32 → Int32
  | 0, s, w => if w = 1 then 1 else s
  | k + 1, s, w => if ¬ g k < 48 ∧ ¬ 57 < g k then sbL g k (s + w * (g k - 48)) (w * 10) else if w = 1 then 1 else s
def slL (g : Nat → Int32) : Nat → Int32
  | 0 => 0
  | k + 1 => if g k = 59 then slL g k + sbL g k 0 1 else slL g k
def ebF (x c : Int32) : Int32 := if ¬ 4 ≤ x then (if c = 111 ∨ c = 104 ∨ c = 108 ∨ c = 61 then x + 1 else -1) else if c = 59 then (if x = 5 then -1 else 0) else if x = 4 then (if c = 42 then 5 else -1) else if (¬ c < 48 ∧ ¬ 57 < c) ∧ ¬ 8 ≤ x then x + 1 else -1
def fpL (g : Nat → Int32) (n : Nat) : Nat → Int32 → Int32
  | 0, x => if x = 0 then -1 else nI n
  | r + 1, x => if (g (n - (r + 1)) = 59 ∧ ¬ x ≤ 5) ∧ ¬ (¬ sbL g (n - (r + 1)) 0 1 < 1 ∧ ¬ 500 < sbL g (n - (r + 1)) 0 1) then nI (n - (r + 1)) - (x - 5) else if ebF x (g (n - (r + 1))) = -1 then nI (n - (r + 1)) else fpL g n r (ebF x (g (n - (r + 1))))
set_option maxHeartbeats 4000000 in
set_option maxRecDepth 100000 in
theorem k_X7_isLetter (l : Launch) (E : Ev) {I : SI} {L : SL} (ch : Int32) : CS l yX7_isLetter wsX7_isLetter ({ frames := 0, cells := 0, slots := 0, locals := 0 }) E [.int ch] I L (fun vv I' L' => vv = some (.int (if ch = 111 ∨ ch = 104 ∨ ch = 108 ∨ ch = 61 then 1 else 0)) ∧ I' = I ∧ L' = L) := by
  refine CS.of (cc := cX7_isLetter) (maxL := 1) (ret := (some .boolean)) (by decide) rfl (Nat.le_of_ble_eq_true rfl) ?_
  intro pg en sg mg below meth cg ls S hr hlk hX G hl
  have S : CallFix pg mg cg cX7_isLetter 1 sg _ wsX7_isLetter RX7 := S
  have hl : lv_has ls 1 [(0, .int ch)] := hl
  refine lv_iload_n S.1 S.2.1 dX7_isLetter_0 rfl (lv_at hl 0 rfl) ?_
  refine lv_bipush (v := (111 : Int32)) S.1 S.2.1 dX7_isLetter_1 (by decide) ?_
  refine lv_icmp_eq (tgt := 24) S.1 S.2.1 dX7_isLetter_3 (by decide) (fun c_1 => ?_) (fun c_1 => ?_)
  · refine lv_iconst (v := (1 : Int32)) S.1 S.2.1 dX7_isLetter_24 (by decide) ?_
    refine lv_goto (tgt := 29) S.1 S.2.1 dX7_isLetter_25 (by decide) ?_
    refine s_zret (x := (1 : Int32)) S G hr hlk dX7_isLetter_29 (Or.inr rfl) ?_
    exact ⟨(congrArg (fun q : Int32 => some (Value.int q)) (show (1 : Int32) = (if ch = 111 ∨ ch = 104 ∨ ch = 108 ∨ ch = 61 then 1 else 0) by first | (simp [c_1]; done) | (clear S hX G hl; grind []))), rfl, rfl⟩
  · refine lv_iload_n S.1 S.2.1 dX7_isLetter_6 rfl (lv_at hl 0 rfl) ?_
    refine lv_bipush (v := (104 : Int32)) S.1 S.2.1 dX7_isLetter_7 (by decide) ?_
    refine lv_icmp_eq (tgt := 24) S.1 S.2.1 dX7_isLetter_9 (by decide) (fun c_2 => ?_) (fun c_2 => ?_)
    · refine lv_iconst (v := (1 : Int32)) S.1 S.2.1 dX7_isLetter_24 (by decide) ?_
      refine lv_goto (tgt := 29) S.1 S.2.1 dX7_isLetter_25 (by decide) ?_
      refine s_zret (x := (1 : Int32)) S G hr hlk dX7_isLetter_29 (Or.inr rfl) ?_
      exact ⟨(congrArg (fun q : Int32 => some (Value.int q)) (show (1 : Int32) = (if ch = 111 ∨ ch = 104 ∨ ch = 108 ∨ ch = 61 then 1 else 0) by first | (simp [c_1, c_2]; done) | (clear S hX G hl; grind []))), rfl, rfl⟩
    · refine lv_iload_n S.1 S.2.1 dX7_isLetter_12 rfl (lv_at hl 0 rfl) ?_
      refine lv_bipush (v := (108 : Int32)) S.1 S.2.1 dX7_isLetter_13 (by decide) ?_
      refine lv_icmp_eq (tgt := 24) S.1 S.2.1 dX7_isLetter_15 (by decide) (fun c_3 => ?_) (fun c_3 => ?_)
      · refine lv_iconst (v := (1 : Int32)) S.1 S.2.1 dX7_isLetter_24 (by decide) ?_
        refine lv_goto (tgt := 29) S.1 S.2.1 dX7_isLetter_25 (by decide) ?_
        refine s_zret (x := (1 : Int32)) S G hr hlk dX7_isLetter_29 (Or.inr rfl) ?_
        exact ⟨(congrArg (fun q : Int32 => some (Value.int q)) (show (1 : Int32) = (if ch = 111 ∨ ch = 104 ∨ ch = 108 ∨ ch = 61 then 1 else 0) by first | (simp [c_1, c_2, c_3]; done) | (clear S hX G hl; grind []))), rfl, rfl⟩
      · refine lv_iload_n S.1 S.2.1 dX7_isLetter_18 rfl (lv_at hl 0 rfl) ?_
        refine lv_bipush (v := (61 : Int32)) S.1 S.2.1 dX7_isLetter_19 (by decide) ?_
        refine lv_icmp_ne (tgt := 28) S.1 S.2.1 dX7_isLetter_21 (by decide) (fun c_4 => ?_) (fun c_4 => ?_)
        · refine lv_iconst (v := (0 : Int32)) S.1 S.2.1 dX7_isLetter_28 (by decide) ?_
          refine s_zret (x := (0 : Int32)) S G hr hlk dX7_isLetter_29 (Or.inl rfl) ?_
          exact ⟨(congrArg (fun q : Int32 => some (Value.int q)) (show (0 : Int32) = (if ch = 111 ∨ ch = 104 ∨ ch = 108 ∨ ch = 61 then 1 else 0) by first | (simp [c_1, c_2, c_3, c_4]; done) | (clear S hX G hl; grind []))), rfl, rfl⟩
        · refine lv_iconst (v := (1 : Int32)) S.1 S.2.1 dX7_isLetter_24 (by decide) ?_
          refine lv_goto (tgt := 29) S.1 S.2.1 dX7_isLetter_25 (by decide) ?_
          refine s_zret (x := (1 : Int32)) S G hr hlk dX7_isLetter_29 (Or.inr rfl) ?_
          exact ⟨(congrArg (fun q : Int32 => some (Value.int q)) (show (1 : Int32) = (if ch = 111 ∨ ch = 104 ∨ ch = 108 ∨ ch = 61 then 1 else 0) by first | (simp [c_1, c_2, c_3, c_4]; done) | (clear S hX G hl; grind []))), rfl, rfl⟩
set_option maxHeartbeats 4000000 in
set_option maxRecDepth 100000 in
theorem k_X7_isDigit (l : Launch) (E : Ev) {I : SI} {L : SL} (ch : Int32) : CS l yX7_isDigit wsX7_isDigit ({ frames := 0, cells := 0, slots := 0, locals := 0 }) E [.int ch] I L (fun vv I' L' => vv = some (.int (if ¬ ch < 48 ∧ ¬ 57 < ch then 1 else 0)) ∧ I' = I ∧ L' = L) := by
  refine CS.of (cc := cX7_isDigit) (maxL := 1) (ret := (some .boolean)) (by decide) rfl (Nat.le_of_ble_eq_true rfl) ?_
  intro pg en sg mg below meth cg ls S hr hlk hX G hl
  have S : CallFix pg mg cg cX7_isDigit 1 sg _ wsX7_isDigit RX7 := S
  have hl : lv_has ls 1 [(0, .int ch)] := hl
  refine lv_iload_n S.1 S.2.1 dX7_isDigit_0 rfl (lv_at hl 0 rfl) ?_
  refine lv_bipush (v := (48 : Int32)) S.1 S.2.1 dX7_isDigit_1 (by decide) ?_
  refine lv_icmp_lt (tgt := 16) S.1 S.2.1 dX7_isDigit_3 (by decide) (fun c_1 => ?_) (fun c_1 => ?_)
  · refine lv_iconst (v := (0 : Int32)) S.1 S.2.1 dX7_isDigit_16 (by decide) ?_
    refine s_zret (x := (0 : Int32)) S G hr hlk dX7_isDigit_17 (Or.inl rfl) ?_
    exact ⟨(congrArg (fun q : Int32 => some (Value.int q)) (show (0 : Int32) = (if ¬ ch < 48 ∧ ¬ 57 < ch then 1 else 0) by first | (simp [c_1]; done) | (clear S hX G hl; grind []))), rfl, rfl⟩
  · refine lv_iload_n S.1 S.2.1 dX7_isDigit_6 rfl (lv_at hl 0 rfl) ?_
    refine lv_bipush (v := (57 : Int32)) S.1 S.2.1 dX7_isDigit_7 (by decide) ?_
    refine lv_icmp_gt (tgt := 16) S.1 S.2.1 dX7_isDigit_9 (by decide) (fun c_2 => ?_) (fun c_2 => ?_)
    · refine lv_iconst (v := (0 : Int32)) S.1 S.2.1 dX7_isDigit_16 (by decide) ?_
      refine s_zret (x := (0 : Int32)) S G hr hlk dX7_isDigit_17 (Or.inl rfl) ?_
      exact ⟨(congrArg (fun q : Int32 => some (Value.int q)) (show (0 : Int32) = (if ¬ ch < 48 ∧ ¬ 57 < ch then 1 else 0) by first | (simp [c_1, c_2]; done) | (clear S hX G hl; grind []))), rfl, rfl⟩
    · refine lv_iconst (v := (1 : Int32)) S.1 S.2.1 dX7_isDigit_12 (by decide) ?_
      refine lv_goto (tgt := 17) S.1 S.2.1 dX7_isDigit_13 (by decide) ?_
      refine s_zret (x := (1 : Int32)) S G hr hlk dX7_isDigit_17 (Or.inr rfl) ?_
      exact ⟨(congrArg (fun q : Int32 => some (Value.int q)) (show (1 : Int32) = (if ¬ ch < 48 ∧ ¬ 57 < ch then 1 else 0) by first | (simp [c_1, c_2]; done) | (clear S hX G hl; grind []))), rfl, rfl⟩
set_option maxHeartbeats 4000000 in
set_option maxRecDepth 100000 in
theorem k_X7_expectedBehind (l : Launch) (E : Ev) {I : SI} {L : SL} (x : Int32) (ch : Int32) : CS l yX7_expectedBehind wsX7_expectedBehind ({ frames := 1, cells := 0, slots := 0, locals := 20 }) E [.int x, .int ch] I L (fun vv I' L' => vv = some (.int (ebF x ch)) ∧ I' = I ∧ L' = L) := by
  refine CS.of (cc := cX7_expectedBehind) (maxL := 2) (ret := (some .int)) (by decide) rfl (Nat.le_of_ble_eq_true rfl) ?_
  intro pg en sg mg below meth cg ls S hr hlk hX G hl
  have S : CallFix pg mg cg cX7_expectedBehind 2 sg _ wsX7_expectedBehind RX7 := S
  have hl : lv_has ls 2 [(0, .int x), (1, .int ch)] := hl
  refine lv_iload_n S.1 S.2.1 dX7_expectedBehind_0 rfl (lv_at hl 0 rfl) ?_
  refine lv_iconst (v := (4 : Int32)) S.1 S.2.1 dX7_expectedBehind_1 (by decide) ?_
  refine lv_icmp_ge (tgt := 20) S.1 S.2.1 dX7_expectedBehind_2 (by decide) (fun c_1 => ?_) (fun c_1 => ?_)
  · refine lv_iload_n S.1 S.2.1 dX7_expectedBehind_20 rfl (lv_at hl 1 rfl) ?_
    refine lv_bipush (v := (59 : Int32)) S.1 S.2.1 dX7_expectedBehind_21 (by decide) ?_
    refine lv_icmp_ne (tgt := 37) S.1 S.2.1 dX7_expectedBehind_23 (by decide) (fun c_2 => ?_) (fun c_2 => ?_)
    · refine lv_iload_n S.1 S.2.1 dX7_expectedBehind_37 rfl (lv_at hl 0 rfl) ?_
      refine lv_iconst (v := (4 : Int32)) S.1 S.2.1 dX7_expectedBehind_38 (by decide) ?_
      refine lv_icmp_ne (tgt := 54) S.1 S.2.1 dX7_expectedBehind_39 (by decide) (fun c_3 => ?_) (fun c_3 => ?_)
      · refine lv_iload_n S.1 S.2.1 dX7_expectedBehind_54 rfl (lv_at hl 1 rfl) ?_
        refine s_callS (As := [.int ch]) (rest := []) S hX G (k_X7_isDigit l E ch) (va_cwS (bytes := cX7_isDigit) (maxL := 1) (ret := (some .boolean)) 1 S.2.2.2.2 gX7_expectedBehind_X7_isDigit rfl rfl rfl (by decide +kernel) ⟨Nat.le_of_ble_eq_true rfl, Nat.le_of_ble_eq_true rfl⟩) rfl hl.1 rfl (Nat.le_of_ble_eq_true rfl) ⟨Nat.zero_le _, Nat.zero_le _⟩ dX7_expectedBehind_55 (fun v I1 L1 H locs hR G => ?_)
        obtain ⟨hv, hI, hL⟩ := hR
        subst hv
        have G : GS E I L sg H locs := G.same hI hL
        refine W.eq (g2 := F0 mg 58 ls [.int (if ¬ ch < 48 ∧ ¬ 57 < ch then 1 else 0)]) rfl ?_
        refine s_if_eq_b (P := ¬ ch < 48 ∧ ¬ 57 < ch) (tgt := 73) S dX7_expectedBehind_58 (by decide) (fun c_4 => ?_) (fun c_4 => ?_)
        · refine lv_iconst (v := (-1 : Int32)) S.1 S.2.1 dX7_expectedBehind_73 (by decide) ?_
          refine s_iret (x := (-1 : Int32)) S G hr hlk dX7_expectedBehind_74 ?_
          exact ⟨(congrArg (fun q : Int32 => some (Value.int q)) (show (-1 : Int32) = (ebF x ch) by first | (simp [ebF, c_1, c_2, c_3, c_4]; done) | (clear S hX G hl; grind [ebF]))), rfl, rfl⟩
        · refine lv_iload_n S.1 S.2.1 dX7_expectedBehind_61 rfl (lv_at hl 0 rfl) ?_
          refine lv_bipush (v := (8 : Int32)) S.1 S.2.1 dX7_expectedBehind_62 (by decide) ?_
          refine lv_icmp_ge (tgt := 73) S.1 S.2.1 dX7_expectedBehind_64 (by decide) (fun c_5 => ?_) (fun c_5 => ?_)
          · refine lv_iconst (v := (-1 : Int32)) S.1 S.2.1 dX7_expectedBehind_73 (by decide) ?_
            refine s_iret (x := (-1 : Int32)) S G hr hlk dX7_expectedBehind_74 ?_
            exact ⟨(congrArg (fun q : Int32 => some (Value.int q)) (show (-1 : Int32) = (ebF x ch) by first | (simp [ebF, c_1, c_2, c_3, c_4, c_5]; done) | (clear S hX G hl; grind [ebF]))), rfl, rfl⟩
          · refine lv_iload_n S.1 S.2.1 dX7_expectedBehind_67 rfl (lv_at hl 0 rfl) ?_
            refine lv_iconst (v := (1 : Int32)) S.1 S.2.1 dX7_expectedBehind_68 (by decide) ?_
            refine s_iadd (v := (x + (1 : Int32))) S dX7_expectedBehind_69 rfl ?_
            refine lv_goto (tgt := 74) S.1 S.2.1 dX7_expectedBehind_70 (by decide) ?_
            refine s_iret (x := (x + (1 : Int32))) S G hr hlk dX7_expectedBehind_74 ?_
            exact ⟨(congrArg (fun q : Int32 => some (Value.int q)) (show (x + (1 : Int32)) = (ebF x ch) by first | (simp [ebF, c_1, c_2, c_3, c_4, c_5]; done) | (clear S hX G hl; grind [ebF]))), rfl, rfl⟩
      · refine lv_iload_n S.1 S.2.1 dX7_expectedBehind_42 rfl (lv_at hl 1 rfl) ?_
        refine lv_bipush (v := (42 : Int32)) S.1 S.2.1 dX7_expectedBehind_43 (by decide) ?_
        refine lv_icmp_ne (tgt := 52) S.1 S.2.1 dX7_expectedBehind_45 (by decide) (fun c_6 => ?_) (fun c_6 => ?_)
        · refine lv_iconst (v := (-1 : Int32)) S.1 S.2.1 dX7_expectedBehind_52 (by decide) ?_
          refine s_iret (x := (-1 : Int32)) S G hr hlk dX7_expectedBehind_53 ?_
          exact ⟨(congrArg (fun q : Int32 => some (Value.int q)) (show (-1 : Int32) = (ebF x ch) by first | (simp [ebF, c_1, c_2, c_3, c_6]; done) | (clear S hX G hl; grind [ebF]))), rfl, rfl⟩
        · refine lv_iconst (v := (5 : Int32)) S.1 S.2.1 dX7_expectedBehind_48 (by decide) ?_
          refine lv_goto (tgt := 53) S.1 S.2.1 dX7_expectedBehind_49 (by decide) ?_
          refine s_iret (x := (5 : Int32)) S G hr hlk dX7_expectedBehind_53 ?_
          exact ⟨(congrArg (fun q : Int32 => some (Value.int q)) (show (5 : Int32) = (ebF x ch) by first | (simp [ebF, c_1, c_2, c_3, c_6]; done) | (clear S hX G hl; grind [ebF]))), rfl, rfl⟩
    · refine lv_iload_n S.1 S.2.1 dX7_expectedBehind_26 rfl (lv_at hl 0 rfl) ?_
      refine lv_iconst (v := (5 : Int32)) S.1 S.2.1 dX7_expectedBehind_27 (by decide) ?_
      refine lv_icmp_ne (tgt := 35) S.1 S.2.1 dX7_expectedBehind_28 (by decide) (fun c_7 => ?_) (fun c_7 => ?_)
      · refine lv_iconst (v := (0 : Int32)) S.1 S.2.1 dX7_expectedBehind_35 (by decide) ?_
        refine s_iret (x := (0 : Int32)) S G hr hlk dX7_expectedBehind_36 ?_
        exact ⟨(congrArg (fun q : Int32 => some (Value.int q)) (show (0 : Int32) = (ebF x ch) by first | (simp [ebF, c_1, c_2, c_7]; done) | (clear S hX G hl; grind [ebF]))), rfl, rfl⟩
      · refine lv_iconst (v := (-1 : Int32)) S.1 S.2.1 dX7_expectedBehind_31 (by decide) ?_
        refine lv_goto (tgt := 36) S.1 S.2.1 dX7_expectedBehind_32 (by decide) ?_
        refine s_iret (x := (-1 : Int32)) S G hr hlk dX7_expectedBehind_36 ?_
        exact ⟨(congrArg (fun q : Int32 => some (Value.int q)) (show (-1 : Int32) = (ebF x ch) by first | (simp [ebF, c_1, c_2, c_7]; done) | (clear S hX G hl; grind [ebF]))), rfl, rfl⟩
  · refine lv_iload_n S.1 S.2.1 dX7_expectedBehind_5 rfl (lv_at hl 1 rfl) ?_
    refine s_callS (As := [.int ch]) (rest := []) S hX G (k_X7_isLetter l E ch) (va_cwS (bytes := cX7_isLetter) (maxL := 1) (ret := (some .boolean)) 1 S.2.2.2.2 gX7_expectedBehind_X7_isLetter rfl rfl rfl (by decide +kernel) ⟨Nat.le_of_ble_eq_true rfl, Nat.le_of_ble_eq_true rfl⟩) rfl hl.1 rfl (Nat.le_of_ble_eq_true rfl) ⟨Nat.zero_le _, Nat.zero_le _⟩ dX7_expectedBehind_6 (fun v I1 L1 H locs hR G => ?_)
    obtain ⟨hv, hI, hL⟩ := hR
    subst hv
    have G : GS E I L sg H locs := G.same hI hL
    refine W.eq (g2 := F0 mg 9 ls [.int (if ch = 111 ∨ ch = 104 ∨ ch = 108 ∨ ch = 61 then 1 else 0)]) rfl ?_
    refine s_if_eq_b (P := ch = 111 ∨ ch = 104 ∨ ch = 108 ∨ ch = 61) (tgt := 18) S dX7_expectedBehind_9 (by decide) (fun c_8 => ?_) (fun c_8 => ?_)
    · refine lv_iconst (v := (-1 : Int32)) S.1 S.2.1 dX7_expectedBehind_18 (by decide) ?_
      refine s_iret (x := (-1 : Int32)) S G hr hlk dX7_expectedBehind_19 ?_
      exact ⟨(congrArg (fun q : Int32 => some (Value.int q)) (show (-1 : Int32) = (ebF x ch) by first | (simp [ebF, c_1, c_8]; done) | (clear S hX G hl; grind [ebF]))), rfl, rfl⟩
    · refine lv_iload_n S.1 S.2.1 dX7_expectedBehind_12 rfl (lv_at hl 0 rfl) ?_
      refine lv_iconst (v := (1 : Int32)) S.1 S.2.1 dX7_expectedBehind_13 (by decide) ?_
      refine s_iadd (v := (x + (1 : Int32))) S dX7_expectedBehind_14 rfl ?_
      refine lv_goto (tgt := 19) S.1 S.2.1 dX7_expectedBehind_15 (by decide) ?_
      refine s_iret (x := (x + (1 : Int32))) S G hr hlk dX7_expectedBehind_19 ?_
      exact ⟨(congrArg (fun q : Int32 => some (Value.int q)) (show (x + (1 : Int32)) = (ebF x ch) by first | (simp [ebF, c_1, c_8]; done) | (clear S hX G hl; grind [ebF]))), rfl, rfl⟩
set_option maxHeartbeats 4000000 in
set_option maxRecDepth 100000 in
theorem k_X7_append (l : Launch) (E : Ev) {I : SI} {L : SL} (i : Nat) (ch : Int32) (x : Nat → Int32) (g : Nat → Int32) (n : Nat) (hi : sh (i) = 7) (hi_1 : sh (i+1) = 11) (e_x : I (i) = x) (e_g : I (i+1) = g) (hx : x 1 = nI n) (hn80 : n < 80) (hc : vp_nar .char ch = ch) : CS l yX7_append wsX7_append ({ frames := 0, cells := 0, slots := 0, locals := 0 }) E [.ref (E.2.2.2 i), .int ch] I L (fun vv I' L' => vv = none ∧ I' = (up (up I (i) (upd x 1 (nI (n + 1)))) (i+1) (upd g n ch)) ∧ L' = L) := by
  refine CS.of (cc := cX7_append) (maxL := 2) (ret := none) (by decide) rfl (Nat.le_of_ble_eq_true rfl) ?_
  intro pg en sg mg below meth cg ls S hr hlk hX G hl
  have S : CallFix pg mg cg cX7_append 2 sg _ wsX7_append RX7 := S
  have hl : lv_has ls 2 [(0, .ref (E.2.2.2 i)), (1, .int ch)] := hl
  refine lv_aload_n S.1 S.2.1 dX7_append_0 rfl (lv_at hl 0 rfl) ?_
  refine s_get S hX G (i := i) (kd := 7) (a := x) (v := .int (x 1)) (C := RX7) (T := TX7) (N := 2) 1 hi e_x rfl rfl (by decide) rfl (fun _ h => (List.mem_cons_of_mem _ (List.mem_append_right _ h))) (by decide) (List.mem_of_getElem? (i := 1) rfl) (fun _ h => h) dX7_append_1 ?_
  refine s_conv (y := (nI n)) hx ?_
  refine lv_bipush (v := (80 : Int32)) S.1 S.2.1 dX7_append_4 (by decide) ?_
  refine lv_icmp_ge (tgt := 29) S.1 S.2.1 dX7_append_6 (by decide) (fun h => absurd h (nI_ge hn80 (by decide))) (fun _ => ?_)
  refine lv_aload_n S.1 S.2.1 dX7_append_9 rfl (lv_at hl 0 rfl) ?_
  refine s_get S hX G (i := i) (kd := 7) (a := x) (v := .ref (E.2.2.2 (i + 1))) (C := RX7) (T := TX7) (N := 2) 0 hi e_x rfl rfl (by decide) rfl (fun _ h => (List.mem_cons_of_mem _ (List.mem_append_right _ h))) (by decide) (List.mem_of_getElem? (i := 2) rfl) (fun _ h => h) dX7_append_10 ?_
  refine lv_aload_n S.1 S.2.1 dX7_append_13 rfl (lv_at hl 0 rfl) ?_
  refine s_get S hX G (i := i) (kd := 7) (a := x) (v := .int (x 1)) (C := RX7) (T := TX7) (N := 2) 1 hi e_x rfl rfl (by decide) rfl (fun _ h => (List.mem_cons_of_mem _ (List.mem_append_right _ h))) (by decide) (List.mem_of_getElem? (i := 1) rfl) (fun _ h => h) dX7_append_14 ?_
  refine s_conv (y := (nI n)) hx ?_
  refine lv_iload_n S.1 S.2.1 dX7_append_17 rfl (lv_at hl 1 rfl) ?_
  refine s_cast S hX G (i := (i + 1)) (jn := n) (a := g) (I' := (up I (i + 1) (upd g n ch))) hi_1 e_g (vp_in_nI hn80 (by decide)) (nI_clamp (by omega)) hc rfl dX7_append_18 (fun H locs G => ?_)
  refine lv_aload_n S.1 S.2.1 dX7_append_19 rfl (lv_at hl 0 rfl) ?_
  refine lv_dup S.1 S.2.1 dX7_append_20 rfl ?_
  refine s_get S hX G (i := i) (kd := 7) (a := x) (v := .int (x 1)) (C := RX7) (T := TX7) (N := 2) 1 hi ((up_ne (by omega)).trans e_x) rfl rfl (by decide) rfl (fun _ h => (List.mem_cons_of_mem _ (List.mem_append_right _ h))) (by decide) (List.mem_of_getElem? (i := 1) rfl) (fun _ h => h) dX7_append_21 ?_
  refine s_conv (y := (nI n)) hx ?_
  refine lv_iconst (v := (1 : Int32)) S.1 S.2.1 dX7_append_24 (by decide) ?_
  refine s_iadd (v := (nI (n + 1))) S dX7_append_25 (nI_add n 1) ?_
  refine s_put S hX G (i := i) (kd := 7) (a := x) (a' := (upd x 1 (nI (n + 1)))) (I' := (up (up I (i + 1) (upd g n ch)) i (upd x 1 (nI (n + 1))))) (v := .int (nI (n + 1))) (ty := .int) (ty0 := tyX7) (C := RX7) (T := TX7) (N := 2) 1 hi ((up_ne (by omega)).trans e_x) rfl rfl rfl (by decide) rfl (fun _ h => (List.mem_cons_of_mem _ (List.mem_append_right _ h))) tyX7_ok nmX7 (by decide) (List.mem_of_getElem? (i := 1) rfl) (fun _ h => h) rfl (by decide +kernel) rfl rfl (Nat.le_of_ble_eq_true rfl) dX7_append_26 (fun H locs G => ?_)
  refine s_vret S G hr hlk dX7_append_29 ?_
  exact ⟨rfl, (st_eq2 up_eq ((up_ne (by omega)).trans up_eq) (fun _ g0 g1 => ((up_ne g0).trans (up_ne g1)))), rfl⟩
set_option maxHeartbeats 4000000 in
set_option maxRecDepth 100000 in
theorem k_X7_signAt (l : Launch) (E : Ev) {I : SI} {L : SL} (i : Nat) (j : Nat) (x : Nat → Int32) (g : Nat → Int32) (n : Nat) (hi : sh (i) = 7) (hi_1 : sh (i+1) = 11) (e_x : I (i) = x) (e_g : I (i+1) = g) (hx : x 1 = nI n) (hn80 : n ≤ 80) (hj : j < n) (hg : chr (g j)) : CS l yX7_signAt wsX7_signAt ({ frames := 1, cells := 0, slots := 0, locals := 22 }) E [.ref (E.2.2.2 i), .int (nI j)] I L (fun vv I' L' => vv = some (.int (g j)) ∧ I' = I ∧ L' = L) := by
  refine CS.of (cc := cX7_signAt) (maxL := 2) (ret := (some .char)) (by decide) rfl (Nat.le_of_ble_eq_true rfl) ?_
  intro pg en sg mg below meth cg ls S hr hlk hX G hl
  have S : CallFix pg mg cg cX7_signAt 2 sg _ wsX7_signAt RX7 := S
  have hl : lv_has ls 2 [(0, .ref (E.2.2.2 i)), (1, .int (nI j))] := hl
  refine lv_iload_n S.1 S.2.1 dX7_signAt_0 rfl (lv_at hl 1 rfl) ?_
  refine lv_iconst (v := (0 : Int32)) S.1 S.2.1 dX7_signAt_1 (by decide) ?_
  refine lv_aload_n S.1 S.2.1 dX7_signAt_2 rfl (lv_at hl 0 rfl) ?_
  refine s_get S hX G (i := i) (kd := 7) (a := x) (v := .int (x 1)) (C := RX7) (T := TX7) (N := 2) 1 hi e_x rfl rfl (by decide) rfl (fun _ h => (List.mem_cons_of_mem _ (List.mem_append_right _ h))) (by decide) (List.mem_of_getElem? (i := 1) rfl) (fun _ h => h) dX7_signAt_3 ?_
  refine s_conv (y := (nI n)) hx ?_
  refine lv_iconst (v := (1 : Int32)) S.1 S.2.1 dX7_signAt_6 (by decide) ?_
  refine s_isub (v := (nI n - 1)) S dX7_signAt_7 rfl ?_
  refine s_callSN (As := [.int (nI j), .int (0 : Int32), .int (nI n - 1)]) (rest := []) S hX G (k_X8_isWithin l E (nI j) (0 : Int32) (nI n - 1)) (va_cnB (bytes := cX8_isWithin) (maxL := 3) (ret := (some .boolean)) 3 S.2.2.2.2 gX7_signAt_X8_isWithin_n19 rfl rfl rfl (hX.2.2.1.2 _ (List.mem_of_getElem? (i := 4) rfl)) (S.2.2.2.2 _ (List.mem_of_getElem? (i := 4) rfl)) (by decide +kernel) ⟨Nat.le_of_ble_eq_true rfl, Nat.le_of_ble_eq_true rfl⟩) (List.mem_of_getElem? (i := 3) rfl) rfl hl.1 rfl (Nat.le_of_ble_eq_true rfl) ⟨Nat.zero_le _, Nat.zero_le _⟩ dX7_signAt_8 (fun v I1 L1 H locs hR G => ?_)
  obtain ⟨hv, hI, hL⟩ := hR
  subst hv
  have G : GS E I L sg H locs := G.same hI hL
  refine W.eq (g2 := F0 mg 11 ls [.int (if ¬ (nI j) < (0 : Int32) ∧ ¬ (nI n - 1) < (nI j) then 1 else 0)]) rfl ?_
  refine s_if_eq_b (P := ¬ (nI j) < (0 : Int32) ∧ ¬ (nI n - 1) < (nI j)) (tgt := 23) S dX7_signAt_11 (by decide) (fun h => absurd ⟨nI_pos (by omega), by rw [show nI n - 1 = nI (n - 1) from pk_sub (a := n) (b := 1) (by omega)]; exact nI_nlt (by omega) (by omega)⟩ h) (fun _ => ?_)
  refine lv_aload_n S.1 S.2.1 dX7_signAt_14 rfl (lv_at hl 0 rfl) ?_
  refine s_get S hX G (i := i) (kd := 7) (a := x) (v := .ref (E.2.2.2 (i + 1))) (C := RX7) (T := TX7) (N := 2) 0 hi e_x rfl rfl (by decide) rfl (fun _ h => (List.mem_cons_of_mem _ (List.mem_append_right _ h))) (by decide) (List.mem_of_getElem? (i := 2) rfl) (fun _ h => h) dX7_signAt_15 ?_
  refine lv_iload_n S.1 S.2.1 dX7_signAt_18 rfl (lv_at hl 1 rfl) ?_
  refine s_cald S hX G (i := (i + 1)) (a := g) (x := (g j)) hi_1 e_g (vp_in_nI (by omega) (by decide)) (congrArg g (nI_clamp (by omega))) dX7_signAt_19 ?_
  refine lv_goto (tgt := 25) S.1 S.2.1 dX7_signAt_20 (by decide) ?_
  refine s_cret (x := (g j)) S G hr hlk dX7_signAt_25 hg ?_
  exact ⟨rfl, rfl, rfl⟩
set_option maxHeartbeats 4000000 in
set_option maxRecDepth 100000 in
theorem k_X7_slotsBefore (l : Launch) (E : Ev) {I : SI} {L : SL} (i : Nat) (ed : Nat) (x : Nat → Int32) (g : Nat → Int32) (n : Nat) (hi : sh (i) = 7) (hi_1 : sh (i+1) = 11) (e_x : I (i) = x) (e_g : I (i+1) = g) (hx : x 1 = nI n) (hn80 : n ≤ 80) (hed : ed < n) (hg : ∀ j, j < n → chr (g j)) : CS l yX7_slotsBefore wsX7_slotsBefore ({ frames := 2, cells := 0, slots := 0, locals := 43 }) E [.ref (E.2.2.2 i), .int (nI ed)] I L (fun vv I' L' => vv = some (.int (sbL g ed 0 1)) ∧ I' = I ∧ L' = L) := by
  refine CS.of (cc := cX7_slotsBefore) (maxL := 5) (ret := (some .int)) (by decide) rfl (Nat.le_of_ble_eq_true rfl) ?_
  intro pg en sg mg below meth cg ls S hr hlk hX G hl
  have S : CallFix pg mg cg cX7_slotsBefore 5 sg _ wsX7_slotsBefore RX7 := S
  have hl : lv_has ls 5 [(0, .ref (E.2.2.2 i)), (1, .int (nI ed))] := hl
  refine lv_iconst (v := (0 : Int32)) S.1 S.2.1 dX7_slotsBefore_0 (by decide) ?_
  refine lv_istore_n (lv' := [(2, .int (0 : Int32)), (0, .ref (E.2.2.2 i)), (1, .int (nI ed))]) S.1 S.2.1 dX7_slotsBefore_1 rfl hl (by decide) rfl (fun ls hl => ?_)
  refine lv_iconst (v := (1 : Int32)) S.1 S.2.1 dX7_slotsBefore_2 (by decide) ?_
  refine lv_istore_n (lv' := [(3, .int (1 : Int32)), (2, .int (0 : Int32)), (0, .ref (E.2.2.2 i)), (1, .int (nI ed))]) S.1 S.2.1 dX7_slotsBefore_3 rfl hl (by decide) rfl (fun ls hl => ?_)
  refine lv_iload_n S.1 S.2.1 dX7_slotsBefore_4 rfl (lv_at hl 3 rfl) ?_
  refine lv_iconst (v := (1 : Int32)) S.1 S.2.1 dX7_slotsBefore_5 (by decide) ?_
  refine s_isub (v := (nI ed + (-1 : Int32))) S dX7_slotsBefore_6 (Int32.sub_eq_add_neg ..) ?_
  refine lv_istore (lv' := [(4, .int (nI ed + (-1 : Int32))), (3, .int (1 : Int32)), (2, .int (0 : Int32)), (0, .ref (E.2.2.2 i)), (1, .int (nI ed))]) S.1 S.2.1 dX7_slotsBefore_7 hl (by decide) rfl (fun ls hl => ?_)
  refine s_loop (α := Nat × Int32 × Int32) (nL := 5) (E := E) (fun nn x I' L' => nn = x.1 ∧ x.1 ≤ ed ∧ sbL g x.1 x.2.1 x.2.2 = sbL g ed 0 1 ∧ I' = I ∧ L' = L) (fun x => [(2, .int x.2.1), (3, .int x.2.2), (4, .int (nI x.1 + (-1 : Int32))), (0, .ref (E.2.2.2 i)), (1, .int (nI ed))]) 9 (fun x => []) (fun nn ih_1 x I1 L1 H locs ls hP G hl => ?_) _ (ed, 0, 1) ⟨rfl, (Nat.le_refl _), rfl, rfl, rfl⟩ G (lv_sub hl [2, 1, 0, 3, 4] rfl)
  obtain ⟨k, s, wt⟩ := x
  obtain ⟨hn, hk, hs, hI, hL⟩ := hP
  have hn : nn = k := hn
  have G : GS E I L sg H locs := G.same hI hL
  have hk : k ≤ ed := hk
  have hs : sbL g k s wt = sbL g ed 0 1 := hs
  have hl : lv_has ls 5 [(2, .int s), (3, .int wt), (4, .int (nI k + (-1 : Int32))), (0, .ref (E.2.2.2 i)), (1, .int (nI ed))] := hl
  refine W.eq (g2 := F0 mg 9 ls []) rfl ?_
  rcases k with _ | k
  · have hl : lv_has ls 5 [(2, .int s), (3, .int wt), (4, .int (-1 : Int32)), (0, .ref (E.2.2.2 i)), (1, .int (nI ed))] := hl
    refine lv_iload S.1 S.2.1 dX7_slotsBefore_9 (lv_at hl 2 rfl) ?_
    refine lv_if_lt (tgt := 51) S.1 S.2.1 dX7_slotsBefore_11 (by decide) (fun _ => ?_) (fun h => absurd (by decide) h)
    refine lv_iload_n S.1 S.2.1 dX7_slotsBefore_51 rfl (lv_at hl 1 rfl) ?_
    refine lv_iconst (v := (1 : Int32)) S.1 S.2.1 dX7_slotsBefore_52 (by decide) ?_
    refine lv_icmp_ne (tgt := 60) S.1 S.2.1 dX7_slotsBefore_53 (by decide) (fun c_2 => ?_) (fun c_2 => ?_)
    · refine lv_iload_n S.1 S.2.1 dX7_slotsBefore_60 rfl (lv_at hl 0 rfl) ?_
      refine s_iret (x := s) S G hr hlk dX7_slotsBefore_61 ?_
      exact ⟨(congrArg (fun q : Int32 => some (Value.int q)) (show s = (sbL g ed 0 1) by rw [← hs]; simp only [sbL]; rw [if_neg c_2])), rfl, rfl⟩
    · refine lv_iconst (v := (1 : Int32)) S.1 S.2.1 dX7_slotsBefore_56 (by decide) ?_
      refine lv_goto (tgt := 61) S.1 S.2.1 dX7_slotsBefore_57 (by decide) ?_
      refine s_iret (x := (1 : Int32)) S G hr hlk dX7_slotsBefore_61 ?_
      exact ⟨(congrArg (fun q : Int32 => some (Value.int q)) (show (1 : Int32) = (sbL g ed 0 1) by rw [← hs]; simp only [sbL]; rw [if_pos c_2])), rfl, rfl⟩
  · rw [pk_m1 k] at hl
    refine lv_iload S.1 S.2.1 dX7_slotsBefore_9 (lv_at hl 2 rfl) ?_
    refine lv_if_lt (tgt := 51) S.1 S.2.1 dX7_slotsBefore_11 (by decide) (fun h => absurd h (nI_pos (by omega))) (fun _ => ?_)
    refine lv_aload_n S.1 S.2.1 dX7_slotsBefore_14 rfl (lv_at hl 3 rfl) ?_
    refine lv_iload S.1 S.2.1 dX7_slotsBefore_15 (lv_at hl 2 rfl) ?_
    refine s_callV (C := RX7) (As := [.int (nI k)]) (rest := []) (i := i) (kd := 7) S hX G (k_X7_signAt l E i k x g n hi hi_1 e_x e_g (by first | assumption | decide | omega) (by first | assumption | decide | omega) (by first | assumption | decide | omega) (hg k (by omega))) (cwV (bytes := cX7_signAt) (maxL := 2) (ret := (some .char)) 1 S.2.2.2.2 gX7_slotsBefore_X7_signAt rfl rfl rfl (by decide +kernel) ⟨Nat.le_of_ble_eq_true rfl, Nat.le_of_ble_eq_true rfl⟩) hi rfl rfl rfl (by decide) rfl hl.1 rfl (Nat.le_of_ble_eq_true rfl) ⟨Nat.zero_le _, Nat.zero_le _⟩ dX7_slotsBefore_17 (fun v I1 L1 H locs hR G => ?_)
    obtain ⟨hv, hI, hL⟩ := hR
    subst hv
    have G : GS E I L sg H locs := G.same hI hL
    refine W.eq (g2 := F0 mg 20 ls [.int (g k)]) rfl ?_
    refine lv_topi (fun y_3 ey_3 => ?_)
    refine s_callS (As := [.int y_3]) (rest := []) S hX G (k_X7_isDigit l E y_3) (va_cwS (bytes := cX7_isDigit) (maxL := 1) (ret := (some .boolean)) 1 S.2.2.2.2 gX7_slotsBefore_X7_isDigit rfl rfl rfl (by decide +kernel) ⟨Nat.le_of_ble_eq_true rfl, Nat.le_of_ble_eq_true rfl⟩) rfl hl.1 rfl (Nat.le_of_ble_eq_true rfl) ⟨Nat.zero_le _, Nat.zero_le _⟩ dX7_slotsBefore_20 (fun v I1 L1 H locs hR G => ?_)
    obtain ⟨hv, hI, hL⟩ := hR
    subst hv
    have G : GS E I L sg H locs := G.same hI hL
    refine W.eq (g2 := F0 mg 23 ls [.int (if ¬ y_3 < 48 ∧ ¬ 57 < y_3 then 1 else 0)]) rfl ?_
    refine s_if_eq_b (P := ¬ y_3 < 48 ∧ ¬ 57 < y_3) (tgt := 51) S dX7_slotsBefore_23 (by decide) (fun c_4 => ?_) (fun c_4 => ?_)
    · refine lv_iload_n S.1 S.2.1 dX7_slotsBefore_51 rfl (lv_at hl 1 rfl) ?_
      refine lv_iconst (v := (1 : Int32)) S.1 S.2.1 dX7_slotsBefore_52 (by decide) ?_
      refine lv_icmp_ne (tgt := 60) S.1 S.2.1 dX7_slotsBefore_53 (by decide) (fun c_5 => ?_) (fun c_5 => ?_)
      · refine lv_iload_n S.1 S.2.1 dX7_slotsBefore_60 rfl (lv_at hl 0 rfl) ?_
        refine s_iret (x := s) S G hr hlk dX7_slotsBefore_61 ?_
        exact ⟨(congrArg (fun q : Int32 => some (Value.int q)) (show s = (sbL g ed 0 1) by subst ey_3; rw [← hs]; simp only [sbL]; rw [if_neg c_4, if_neg c_5])), rfl, rfl⟩
      · refine lv_iconst (v := (1 : Int32)) S.1 S.2.1 dX7_slotsBefore_56 (by decide) ?_
        refine lv_goto (tgt := 61) S.1 S.2.1 dX7_slotsBefore_57 (by decide) ?_
        refine s_iret (x := (1 : Int32)) S G hr hlk dX7_slotsBefore_61 ?_
        exact ⟨(congrArg (fun q : Int32 => some (Value.int q)) (show (1 : Int32) = (sbL g ed 0 1) by subst ey_3; rw [← hs]; simp only [sbL]; rw [if_neg c_4, if_pos c_5])), rfl, rfl⟩
    · refine lv_iload_n S.1 S.2.1 dX7_slotsBefore_26 rfl (lv_at hl 0 rfl) ?_
      refine lv_iload_n S.1 S.2.1 dX7_slotsBefore_27 rfl (lv_at hl 1 rfl) ?_
      refine lv_aload_n S.1 S.2.1 dX7_slotsBefore_28 rfl (lv_at hl 3 rfl) ?_
      refine lv_iload S.1 S.2.1 dX7_slotsBefore_29 (lv_at hl 2 rfl) ?_
      refine s_callV (C := RX7) (As := [.int (nI k)]) (rest := [.int wt, .int s]) (i := i) (kd := 7) S hX G (k_X7_signAt l E i k x g n hi hi_1 e_x e_g (by first | assumption | decide | omega) (by first | assumption | decide | omega) (by first | assumption | decide | omega) (hg k (by omega))) (cwV (bytes := cX7_signAt) (maxL := 2) (ret := (some .char)) 1 S.2.2.2.2 gX7_slotsBefore_X7_signAt rfl rfl rfl (by decide +kernel) ⟨Nat.le_of_ble_eq_true rfl, Nat.le_of_ble_eq_true rfl⟩) hi rfl rfl rfl (by decide) rfl hl.1 rfl (Nat.le_of_ble_eq_true rfl) ⟨Nat.zero_le _, Nat.zero_le _⟩ dX7_slotsBefore_31 (fun v I1 L1 H locs hR G => ?_)
      obtain ⟨hv, hI, hL⟩ := hR
      subst hv
      have G : GS E I L sg H locs := G.same hI hL
      refine W.eq (g2 := F0 mg 34 ls [.int (g k), .int wt, .int s]) rfl ?_
      refine lv_topi (fun y_6 ey_6 => ?_)
      refine lv_bipush (v := (48 : Int32)) S.1 S.2.1 dX7_slotsBefore_34 (by decide) ?_
      refine s_isub (v := (y_6 - (48 : Int32))) S dX7_slotsBefore_36 rfl ?_
      refine s_imul (v := (wt * (y_6 - (48 : Int32)))) S dX7_slotsBefore_37 rfl ?_
      refine s_iadd (v := (s + (wt * (y_6 - (48 : Int32))))) S dX7_slotsBefore_38 rfl ?_
      refine lv_istore_n (lv' := [(2, .int (s + (wt * (y_6 - (48 : Int32))))), (3, .int wt), (4, .int (nI k)), (0, .ref (E.2.2.2 i)), (1, .int (nI ed))]) S.1 S.2.1 dX7_slotsBefore_39 rfl hl (by decide) rfl (fun ls hl => ?_)
      refine lv_iload_n S.1 S.2.1 dX7_slotsBefore_40 rfl (lv_at hl 1 rfl) ?_
      refine lv_bipush (v := (10 : Int32)) S.1 S.2.1 dX7_slotsBefore_41 (by decide) ?_
      refine s_imul (v := (wt * (10 : Int32))) S dX7_slotsBefore_43 rfl ?_
      refine lv_istore_n (lv' := [(3, .int (wt * (10 : Int32))), (2, .int (s + (wt * (y_6 - (48 : Int32))))), (4, .int (nI k)), (0, .ref (E.2.2.2 i)), (1, .int (nI ed))]) S.1 S.2.1 dX7_slotsBefore_44 rfl hl (by decide) rfl (fun ls hl => ?_)
      refine lv_iinc (v := ((nI k) + (-1 : Int32))) (lv' := [(4, .int ((nI k) + (-1 : Int32))), (3, .int (wt * (10 : Int32))), (2, .int (s + (wt * (y_6 - (48 : Int32))))), (0, .ref (E.2.2.2 i)), (1, .int (nI ed))]) S.1 S.2.1 dX7_slotsBefore_45 hl (k := 2) rfl rfl (by decide) rfl (fun ls hl => ?_)
      refine lv_goto (tgt := 9) S.1 S.2.1 dX7_slotsBefore_48 (by decide) ?_
      exact ih_1 _ (show k < nn by omega) (k, ((s + (wt * (y_6 - (48 : Int32))))), ((wt * (10 : Int32)))) _ _ _ _ _ ⟨rfl, (by omega), (by subst ey_6 ey_3; rw [← hs]; simp only [sbL]; rw [if_pos c_4]), rfl, rfl⟩ G (lv_sub hl [2, 1, 0, 3, 4] rfl)
set_option maxHeartbeats 4000000 in
set_option maxRecDepth 100000 in
theorem k_X7_slots (l : Launch) (E : Ev) {I : SI} {L : SL} (i : Nat) (x : Nat → Int32) (g : Nat → Int32) (n : Nat) (hi : sh (i) = 7) (hi_1 : sh (i+1) = 11) (e_x : I (i) = x) (e_g : I (i+1) = g) (hx : x 1 = nI n) (hn80 : n ≤ 80) (hg : ∀ j, j < n → chr (g j)) : CS l yX7_slots wsX7_slots ({ frames := 3, cells := 0, slots := 0, locals := 67 }) E [.ref (E.2.2.2 i)] I L (fun vv I' L' => vv = some (.int (slL g n)) ∧ I' = I ∧ L' = L) := by
  refine CS.of (cc := cX7_slots) (maxL := 3) (ret := (some .int)) (by decide) rfl (Nat.le_of_ble_eq_true rfl) ?_
  intro pg en sg mg below meth cg ls S hr hlk hX G hl
  have S : CallFix pg mg cg cX7_slots 3 sg _ wsX7_slots RX7 := S
  have hl : lv_has ls 3 [(0, .ref (E.2.2.2 i))] := hl
  refine lv_iconst (v := (0 : Int32)) S.1 S.2.1 dX7_slots_0 (by decide) ?_
  refine lv_istore_n (lv' := [(1, .int (0 : Int32)), (0, .ref (E.2.2.2 i))]) S.1 S.2.1 dX7_slots_1 rfl hl (by decide) rfl (fun ls hl => ?_)
  refine lv_iconst (v := (0 : Int32)) S.1 S.2.1 dX7_slots_2 (by decide) ?_
  refine lv_istore_n (lv' := [(2, .int (0 : Int32)), (1, .int (0 : Int32)), (0, .ref (E.2.2.2 i))]) S.1 S.2.1 dX7_slots_3 rfl hl (by decide) rfl (fun ls hl => ?_)
  refine s_loop (α := Nat × Int32) (nL := 3) (E := E) (fun nn x I' L' => nn = n - x.1 ∧ x.1 ≤ n ∧ x.2 = slL g x.1 ∧ I' = I ∧ L' = L) (fun x => [(1, .int x.2), (2, .int (nI x.1)), (0, .ref (E.2.2.2 i))]) 4 (fun x => []) (fun nn ih_1 x I1 L1 H locs ls hP G hl => ?_) _ (0, 0) ⟨rfl, (Nat.zero_le _), rfl, rfl, rfl⟩ G (lv_sub hl [1, 0, 2] rfl)
  obtain ⟨k, s⟩ := x
  obtain ⟨hn, hk, hs, hI, hL⟩ := hP
  have hn : nn = n - k := hn
  have G : GS E I L sg H locs := G.same hI hL
  have hk : k ≤ n := hk
  have hs : s = slL g k := hs
  have hl : lv_has ls 3 [(1, .int s), (2, .int (nI k)), (0, .ref (E.2.2.2 i))] := hl
  refine W.eq (g2 := F0 mg 4 ls []) rfl ?_
  rcases Nat.lt_or_ge k n with hlt | hge
  · have hlt : k < n := hlt
    refine lv_iload_n S.1 S.2.1 dX7_slots_4 rfl (lv_at hl 1 rfl) ?_
    refine lv_aload_n S.1 S.2.1 dX7_slots_5 rfl (lv_at hl 2 rfl) ?_
    refine s_get S hX G (i := i) (kd := 7) (a := x) (v := .int (x 1)) (C := RX7) (T := TX7) (N := 2) 1 hi e_x rfl rfl (by decide) rfl (fun _ h => (List.mem_cons_of_mem _ (List.mem_append_right _ h))) (by decide) (List.mem_of_getElem? (i := 1) rfl) (fun _ h => h) dX7_slots_6 ?_
    refine s_conv (y := (nI n)) hx ?_
    refine lv_icmp_ge (tgt := 36) S.1 S.2.1 dX7_slots_9 (by decide) (fun h => absurd h (nI_ge hlt (by omega))) (fun _ => ?_)
    refine lv_aload_n S.1 S.2.1 dX7_slots_12 rfl (lv_at hl 2 rfl) ?_
    refine lv_iload_n S.1 S.2.1 dX7_slots_13 rfl (lv_at hl 1 rfl) ?_
    refine s_callV (C := RX7) (As := [.int (nI k)]) (rest := []) (i := i) (kd := 7) S hX G (k_X7_signAt l E i k x g n hi hi_1 e_x e_g (by first | assumption | decide | omega) (by first | assumption | decide | omega) (by first | assumption | decide | omega) (hg k hlt)) (cwV (bytes := cX7_signAt) (maxL := 2) (ret := (some .char)) 1 S.2.2.2.2 gX7_slots_X7_signAt rfl rfl rfl (by decide +kernel) ⟨Nat.le_of_ble_eq_true rfl, Nat.le_of_ble_eq_true rfl⟩) hi rfl rfl rfl (by decide) rfl hl.1 rfl (Nat.le_of_ble_eq_true rfl) ⟨Nat.zero_le _, Nat.zero_le _⟩ dX7_slots_14 (fun v I1 L1 H locs hR G => ?_)
    obtain ⟨hv, hI, hL⟩ := hR
    subst hv
    have G : GS E I L sg H locs := G.same hI hL
    refine W.eq (g2 := F0 mg 17 ls [.int (g k)]) rfl ?_
    refine lv_topi (fun y_2 ey_2 => ?_)
    refine lv_bipush (v := (59 : Int32)) S.1 S.2.1 dX7_slots_17 (by decide) ?_
    refine lv_icmp_ne (tgt := 30) S.1 S.2.1 dX7_slots_19 (by decide) (fun c_3 => ?_) (fun c_3 => ?_)
    · refine lv_iinc (v := (nI (k + 1))) (lv' := [(2, .int (nI (k + 1))), (1, .int s), (0, .ref (E.2.2.2 i))]) S.1 S.2.1 dX7_slots_30 hl (k := 1) rfl (nI_1 k) (by decide) rfl (fun ls hl => ?_)
      refine lv_goto (tgt := 4) S.1 S.2.1 dX7_slots_33 (by decide) ?_
      exact ih_1 _ (show n - (k + 1) < nn by omega) ((k + 1), (s)) _ _ _ _ _ ⟨rfl, (by omega), (by subst ey_2; simp only [slL]; first | rw [if_pos c_3, hs] | rw [if_neg c_3, hs]), rfl, rfl⟩ G (lv_sub hl [1, 0, 2] rfl)
    · refine lv_iload_n S.1 S.2.1 dX7_slots_22 rfl (lv_at hl 0 rfl) ?_
      refine lv_aload_n S.1 S.2.1 dX7_slots_23 rfl (lv_at hl 2 rfl) ?_
      refine lv_iload_n S.1 S.2.1 dX7_slots_24 rfl (lv_at hl 1 rfl) ?_
      refine s_callV (C := RX7) (As := [.int (nI k)]) (rest := [.int s]) (i := i) (kd := 7) S hX G (k_X7_slotsBefore l E i k x g n hi hi_1 e_x e_g (by first | assumption | decide | omega) (by first | assumption | decide | omega) (by first | assumption | decide | omega) (by first | assumption | decide | omega)) (cwV (bytes := cX7_slotsBefore) (maxL := 5) (ret := (some .int)) 1 S.2.2.2.2 gX7_slots_X7_slotsBefore rfl rfl rfl (by decide +kernel) ⟨Nat.le_of_ble_eq_true rfl, Nat.le_of_ble_eq_true rfl⟩) hi rfl rfl rfl (by decide) rfl hl.1 rfl (Nat.le_of_ble_eq_true rfl) ⟨Nat.zero_le _, Nat.zero_le _⟩ dX7_slots_25 (fun v I1 L1 H locs hR G => ?_)
      obtain ⟨hv, hI, hL⟩ := hR
      subst hv
      have G : GS E I L sg H locs := G.same hI hL
      refine W.eq (g2 := F0 mg 28 ls [.int (sbL g k 0 1), .int s]) rfl ?_
      refine lv_topi (fun y_4 ey_4 => ?_)
      refine s_iadd (v := (s + y_4)) S dX7_slots_28 rfl ?_
      refine lv_istore_n (lv' := [(1, .int (s + y_4)), (2, .int (nI k)), (0, .ref (E.2.2.2 i))]) S.1 S.2.1 dX7_slots_29 rfl hl (by decide) rfl (fun ls hl => ?_)
      refine lv_iinc (v := (nI (k + 1))) (lv' := [(2, .int (nI (k + 1))), (1, .int (s + y_4)), (0, .ref (E.2.2.2 i))]) S.1 S.2.1 dX7_slots_30 hl (k := 1) rfl (nI_1 k) (by decide) rfl (fun ls hl => ?_)
      refine lv_goto (tgt := 4) S.1 S.2.1 dX7_slots_33 (by decide) ?_
      exact ih_1 _ (show n - (k + 1) < nn by omega) ((k + 1), ((s + y_4))) _ _ _ _ _ ⟨rfl, (by omega), (by subst ey_4 ey_2; simp only [slL]; first | rw [if_pos c_3, hs] | rw [if_neg c_3, hs]), rfl, rfl⟩ G (lv_sub hl [1, 0, 2] rfl)
  · have hkn : n = k := by omega
    subst hkn
    refine lv_iload_n S.1 S.2.1 dX7_slots_4 rfl (lv_at hl 1 rfl) ?_
    refine lv_aload_n S.1 S.2.1 dX7_slots_5 rfl (lv_at hl 2 rfl) ?_
    refine s_get S hX G (i := i) (kd := 7) (a := x) (v := .int (x 1)) (C := RX7) (T := TX7) (N := 2) 1 hi e_x rfl rfl (by decide) rfl (fun _ h => (List.mem_cons_of_mem _ (List.mem_append_right _ h))) (by decide) (List.mem_of_getElem? (i := 1) rfl) (fun _ h => h) dX7_slots_6 ?_
    refine s_conv (y := (nI n)) hx ?_
    refine lv_icmp_ge (tgt := 36) S.1 S.2.1 dX7_slots_9 (by decide) (fun _ => ?_) (fun h => absurd (nI_le (by omega) (by omega)) h)
    refine lv_iload_n S.1 S.2.1 dX7_slots_36 rfl (lv_at hl 0 rfl) ?_
    refine s_iret (x := s) S G hr hlk dX7_slots_37 ?_
    exact ⟨(congrArg (fun q : Int32 => some (Value.int q)) (show s = (slL g n) by exact hs)), rfl, rfl⟩
