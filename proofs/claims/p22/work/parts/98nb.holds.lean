set_option maxRecDepth 100000 in
set_option maxHeartbeats 4000000 in
/-- one leg -/
theorem hd_leg {pg : Program} {l : Launch} {eg : Env} {sg : State} {mg : MethodId} {args : Array Value} {below : List Frame} {meth : Method} {cg : Code} {H : Heap} {locs : List Loc} {Q : State → Prop} {ls : Array Slot} {E : Ev} {I : SI} {L : SL} {n k sw S0 T : Nat} (S : CallFix pg mg cg cL_holds 9 sg args wsL_holds RL) (hX : FX E sg) (G : GS E I L sg H locs) (hl : lv_has ls 9 [(6, .int (nI n)), (5, .int (1 : Int32)), (3, .long (lN T)), (1, .long (lN S0)), (0, .ref (E.2.2.2 0))]) (hn : n < 4) (hk : I 1 4 = nI k) (hk2 : k < 2 ^ 28) (hLeg : LegI (I (lgc n)) k) (e3 : I (lgc n) 3 = nI sw) (hsw : sw ≤ k) (hw : ¬ I (ftn (n / 2)) 3 = 0 → wshI I n = 0) (kk : ∀ (H1 : Heap) (locs1 : List Loc) (ls1 : Array Slot), GS E I L sg H1 locs1 → lv_has ls1 9 [(6, .int (nI (n + 1))), (5, .int (1 : Int32)), (3, .long (lN T)), (1, .long (lN (S0 + sw))), (0, .ref (E.2.2.2 0))] → W pg l eg ({ frames := 6, cells := 0, slots := 0, locals := 140 } : Room) sg mg args below meth cg H1 locs1 0 0 Q (F0 mg 46 ls1 [])) : W pg l eg ({ frames := 6, cells := 0, slots := 0, locals := 140 } : Room) sg mg args below meth cg H locs 0 0 Q (F0 mg 46 ls []) := by
  have hf : 0 ≤ ({ frames := 6, cells := 0, slots := 0, locals := 140 } : Room).cells ∧ 0 ≤ ({ frames := 6, cells := 0, slots := 0, locals := 140 } : Room).slots := ⟨Nat.zero_le _, Nat.zero_le _⟩
  have hk2 : k < 2 ^ 30 := by omega
  obtain ⟨-, h1, r2, r3, r4, r5, r6, e2, -, e4, e5, e6, hs, -, hr2k, hz, hn1⟩ := hLeg
  refine lv_iload S.1 S.2.1 dL_holds_46 (lv_at hl 0 rfl) ?_
  refine lv_iconst (v := (4 : Int32)) S.1 S.2.1 dL_holds_48 (by decide) ?_
  refine lv_icmp_ge (tgt := 182) S.1 S.2.1 dL_holds_49 (by decide) (fun h => absurd h (nI_ge (b := 4) hn (by decide))) (fun _ => ?_)
  refine lv_iload S.1 S.2.1 dL_holds_52 (lv_at hl 1 rfl) ?_
  refine lv_if_eq (tgt := 182) S.1 S.2.1 dL_holds_54 (by decide) (fun h => absurd h (by decide)) (fun _ => ?_)
  refine lv_lload_n S.1 S.2.1 dL_holds_57 rfl (lv_at hl 3 rfl) ?_
  refine lv_aload_n S.1 S.2.1 dL_holds_58 rfl (lv_at hl 4 rfl) ?_
  refine lv_iload S.1 S.2.1 dL_holds_59 (lv_at hl 0 rfl) ?_
  refine lv_iconst (v := (4 : Int32)) S.1 S.2.1 dL_holds_61 (by decide) ?_
  refine s_read (As := [.int (nI n), .int (4 : Int32)]) (rest := [.long (lN S0)]) S hX G (by have q := r_leg_4 l E (I := I) (L := L) n hn; rw [e3] at q; exact q) (cwV (bytes := cX8_leg) (maxL := 4) (ret := (some .int)) 2 S.2.2.2.2 gL_holds_X8_leg rfl rfl rfl (by decide +kernel) ⟨Nat.le_of_ble_eq_true rfl, Nat.le_of_ble_eq_true rfl⟩) rfl hl.1 rfl (Nat.le_of_ble_eq_true rfl) hf dL_holds_62 (fun H locs G => ?_)
  refine lv_i2l (v := (lN sw)) S.1 S.2.1 dL_holds_65 (nI_l (by omega)) ?_
  refine s_ladd (v := (lN (S0 + sw))) S dL_holds_66 (lN_add S0 sw) ?_
  refine lv_lstore_n (lv' := [(1, .long (lN (S0 + sw))), (6, .int (nI n)), (5, .int (1 : Int32)), (3, .long (lN T)), (0, .ref (E.2.2.2 0))]) S.1 S.2.1 dL_holds_67 rfl hl (by decide) rfl (fun ls hl => ?_)
  refine lv_aload_n S.1 S.2.1 dL_holds_68 rfl (lv_at hl 4 rfl) ?_
  refine lv_iload S.1 S.2.1 dL_holds_69 (lv_at hl 1 rfl) ?_
  refine lv_iconst (v := (5 : Int32)) S.1 S.2.1 dL_holds_71 (by decide) ?_
  refine s_read (As := [.int (nI n), .int (5 : Int32)]) (rest := []) S hX G (by have q := r_leg_5 l E (I := I) (L := L) n hn; rw [e4] at q; exact q) (cwV (bytes := cX8_leg) (maxL := 4) (ret := (some .int)) 2 S.2.2.2.2 gL_holds_X8_leg rfl rfl rfl (by decide +kernel) ⟨Nat.le_of_ble_eq_true rfl, Nat.le_of_ble_eq_true rfl⟩) rfl hl.1 rfl (Nat.le_of_ble_eq_true rfl) hf dL_holds_72 (fun H locs G => ?_)
  refine lv_aload_n S.1 S.2.1 dL_holds_75 rfl (lv_at hl 4 rfl) ?_
  refine lv_iload S.1 S.2.1 dL_holds_76 (lv_at hl 1 rfl) ?_
  refine lv_bipush (v := (6 : Int32)) S.1 S.2.1 dL_holds_78 (by decide) ?_
  refine s_read (As := [.int (nI n), .int (6 : Int32)]) (rest := [.int (nI r4)]) S hX G (by have q := r_leg_6 l E (I := I) (L := L) n hn; rw [e5] at q; exact q) (cwV (bytes := cX8_leg) (maxL := 4) (ret := (some .int)) 2 S.2.2.2.2 gL_holds_X8_leg rfl rfl rfl (by decide +kernel) ⟨Nat.le_of_ble_eq_true rfl, Nat.le_of_ble_eq_true rfl⟩) rfl hl.1 rfl (Nat.le_of_ble_eq_true rfl) hf dL_holds_80 (fun H locs G => ?_)
  refine s_iadd (v := (nI (r4 + r5))) S dL_holds_83 (nI_add r4 r5) ?_
  refine lv_aload_n S.1 S.2.1 dL_holds_84 rfl (lv_at hl 4 rfl) ?_
  refine lv_iload S.1 S.2.1 dL_holds_85 (lv_at hl 1 rfl) ?_
  refine lv_bipush (v := (7 : Int32)) S.1 S.2.1 dL_holds_87 (by decide) ?_
  refine s_read (As := [.int (nI n), .int (7 : Int32)]) (rest := [.int (nI (r4 + r5))]) S hX G (by have q := r_leg_7 l E (I := I) (L := L) n hn; rw [e6] at q; exact q) (cwV (bytes := cX8_leg) (maxL := 4) (ret := (some .int)) 2 S.2.2.2.2 gL_holds_X8_leg rfl rfl rfl (by decide +kernel) ⟨Nat.le_of_ble_eq_true rfl, Nat.le_of_ble_eq_true rfl⟩) rfl hl.1 rfl (Nat.le_of_ble_eq_true rfl) hf dL_holds_89 (fun H locs G => ?_)
  refine s_iadd (v := (nI ((r4 + r5) + r6))) S dL_holds_92 (nI_add (r4 + r5) r6) ?_
  refine lv_i2l (v := (lN (r4 + r5 + r6))) S.1 S.2.1 dL_holds_93 (nI_l (by omega)) ?_
  refine lv_aload_n S.1 S.2.1 dL_holds_94 rfl (lv_at hl 4 rfl) ?_
  refine lv_iconst (v := (0 : Int32)) S.1 S.2.1 dL_holds_95 (by decide) ?_
  refine s_read (As := [.int (0 : Int32)]) (rest := [.long (lN (r4 + r5 + r6))]) S hX G (r_count_0 l E k hk hk2) (cwV (bytes := cX8_count) (maxL := 2) (ret := (some .long)) 1 S.2.2.2.2 gL_holds_X8_count rfl rfl rfl (by decide +kernel) ⟨Nat.le_of_ble_eq_true rfl, Nat.le_of_ble_eq_true rfl⟩) rfl hl.1 rfl (Nat.le_of_ble_eq_true rfl) hf dL_holds_96 (fun H locs G => ?_)
  refine W.lcmp S.1 S.2.1 dL_holds_99 ?_
  refine lv_if_ne (tgt := 173) S.1 S.2.1 dL_holds_100 (by decide) (fun h => absurd ((lg_cmp_eq _ _).mpr (congrArg lN hs)) h) (fun _ => ?_)
  rcases Classical.em (I (lgc n) 1 = 0) with ha | ha
  · rcases Nat.eq_zero_or_pos r2 with hr2 | hr2
    · refine lv_aload_n S.1 S.2.1 dL_holds_103 rfl (lv_at hl 4 rfl) ?_
      refine lv_iload S.1 S.2.1 dL_holds_104 (lv_at hl 1 rfl) ?_
      refine lv_iconst (v := (1 : Int32)) S.1 S.2.1 dL_holds_106 (by decide) ?_
      refine s_read (As := [.int (nI n), .int (1 : Int32)]) (rest := []) S hX G (r_leg_1 l E n hn) (cwV (bytes := cX8_leg) (maxL := 4) (ret := (some .int)) 2 S.2.2.2.2 gL_holds_X8_leg rfl rfl rfl (by decide +kernel) ⟨Nat.le_of_ble_eq_true rfl, Nat.le_of_ble_eq_true rfl⟩) rfl hl.1 rfl (Nat.le_of_ble_eq_true rfl) hf dL_holds_107 (fun H locs G => ?_)
      refine lv_if_le (tgt := 117) S.1 S.2.1 dL_holds_110 (by decide) (fun _ => ?_) (fun h => absurd (by rw [ha]; decide) h)
      refine lv_iconst (v := (0 : Int32)) S.1 S.2.1 dL_holds_117 (by decide) ?_
      refine lv_aload_n S.1 S.2.1 dL_holds_118 rfl (lv_at hl 4 rfl) ?_
      refine lv_iload S.1 S.2.1 dL_holds_119 (lv_at hl 1 rfl) ?_
      refine lv_iconst (v := (3 : Int32)) S.1 S.2.1 dL_holds_121 (by decide) ?_
      refine s_read (As := [.int (nI n), .int (3 : Int32)]) (rest := [.int (0 : Int32)]) S hX G (by have q := r_leg_3 l E (I := I) (L := L) n hn; rw [e2] at q; exact q) (cwV (bytes := cX8_leg) (maxL := 4) (ret := (some .int)) 2 S.2.2.2.2 gL_holds_X8_leg rfl rfl rfl (by decide +kernel) ⟨Nat.le_of_ble_eq_true rfl, Nat.le_of_ble_eq_true rfl⟩) rfl hl.1 rfl (Nat.le_of_ble_eq_true rfl) hf dL_holds_122 (fun H locs G => ?_)
      refine lv_if_ne (tgt := 142) S.1 S.2.1 dL_holds_125 (by decide) (fun h => absurd ((nI_z (by omega)).mpr hr2) h) (fun _ => ?_)
      refine lv_aload_n S.1 S.2.1 dL_holds_128 rfl (lv_at hl 4 rfl) ?_
      refine lv_iconst (v := (0 : Int32)) S.1 S.2.1 dL_holds_129 (by decide) ?_
      refine s_read (As := [.int (0 : Int32)]) (rest := [.int (0 : Int32)]) S hX G (r_count_0 l E k hk hk2) (cwV (bytes := cX8_count) (maxL := 2) (ret := (some .long)) 1 S.2.2.2.2 gL_holds_X8_count rfl rfl rfl (by decide +kernel) ⟨Nat.le_of_ble_eq_true rfl, Nat.le_of_ble_eq_true rfl⟩) rfl hl.1 rfl (Nat.le_of_ble_eq_true rfl) hf dL_holds_130 (fun H locs G => ?_)
      refine lv_lconst (v := (0 : Int64)) S.1 S.2.1 dL_holds_133 (by decide) ?_
      refine W.lcmp S.1 S.2.1 dL_holds_134 ?_
      refine s_if_le_c (tgt := 142) S dL_holds_135 (by decide) (fun _ => ?_) (fun h => absurd ((pk_lLE (b := 0) (by omega) (by decide)).mpr (Nat.le_of_eq (hz ha hr2))) h)
      refine lv_iconst (v := (0 : Int32)) S.1 S.2.1 dL_holds_142 (by decide) ?_
      refine lv_icmp_ne (tgt := 173) S.1 S.2.1 dL_holds_143 (by decide) (fun h => absurd (by decide) h) (fun _ => ?_)
      rcases Classical.em (I (ftn (n / 2)) 3 = 0) with hn3 | hn3
      · refine lv_aload_n S.1 S.2.1 dL_holds_146 rfl (lv_at hl 4 rfl) ?_
        refine lv_iload S.1 S.2.1 dL_holds_147 (lv_at hl 1 rfl) ?_
        refine lv_iconst (v := (2 : Int32)) S.1 S.2.1 dL_holds_149 (by decide) ?_
        refine s_idiv (v := (nI (n / 2))) S dL_holds_150 (by decide) (pk_div (a := n) (d := 2) (by omega) (by decide) (by decide)) ?_
        refine lv_bipush (v := (10 : Int32)) S.1 S.2.1 dL_holds_151 (by decide) ?_
        refine s_read (As := [.int (nI (n / 2)), .int (10 : Int32)]) (rest := []) S hX G (r_load_10 l E (n / 2) (by omega)) (cwV (bytes := cX8_load) (maxL := 4) (ret := (some .int)) 2 S.2.2.2.2 gL_holds_X8_load rfl rfl rfl (by decide +kernel) ⟨Nat.le_of_ble_eq_true rfl, Nat.le_of_ble_eq_true rfl⟩) rfl hl.1 rfl (Nat.le_of_ble_eq_true rfl) hf dL_holds_153 (fun H locs G => ?_)
        refine lv_if_eq (tgt := 169) S.1 S.2.1 dL_holds_156 (by decide) (fun _ => ?_) (fun h => absurd hn3 h)
        refine lv_iconst (v := (1 : Int32)) S.1 S.2.1 dL_holds_169 (by decide) ?_
        refine lv_goto (tgt := 174) S.1 S.2.1 dL_holds_170 (by decide) ?_
        refine lv_istore (lv' := [(5, .int (1 : Int32)), (1, .long (lN (S0 + sw))), (6, .int (nI n)), (3, .long (lN T)), (0, .ref (E.2.2.2 0))]) S.1 S.2.1 dL_holds_174 hl (by decide) rfl (fun ls hl => ?_)
        refine lv_iinc (v := (nI (n + 1))) (lv' := [(6, .int (nI (n + 1))), (5, .int (1 : Int32)), (1, .long (lN (S0 + sw))), (3, .long (lN T)), (0, .ref (E.2.2.2 0))]) S.1 S.2.1 dL_holds_176 hl (k := 2) rfl (nI_1 n) (by decide) rfl (fun ls hl => ?_)
        refine lv_goto (tgt := 46) S.1 S.2.1 dL_holds_179 (by decide) ?_
        exact kk _ _ _ G (lv_sub hl [0, 1, 3, 2, 4] rfl)
      · refine lv_aload_n S.1 S.2.1 dL_holds_146 rfl (lv_at hl 4 rfl) ?_
        refine lv_iload S.1 S.2.1 dL_holds_147 (lv_at hl 1 rfl) ?_
        refine lv_iconst (v := (2 : Int32)) S.1 S.2.1 dL_holds_149 (by decide) ?_
        refine s_idiv (v := (nI (n / 2))) S dL_holds_150 (by decide) (pk_div (a := n) (d := 2) (by omega) (by decide) (by decide)) ?_
        refine lv_bipush (v := (10 : Int32)) S.1 S.2.1 dL_holds_151 (by decide) ?_
        refine s_read (As := [.int (nI (n / 2)), .int (10 : Int32)]) (rest := []) S hX G (r_load_10 l E (n / 2) (by omega)) (cwV (bytes := cX8_load) (maxL := 4) (ret := (some .int)) 2 S.2.2.2.2 gL_holds_X8_load rfl rfl rfl (by decide +kernel) ⟨Nat.le_of_ble_eq_true rfl, Nat.le_of_ble_eq_true rfl⟩) rfl hl.1 rfl (Nat.le_of_ble_eq_true rfl) hf dL_holds_153 (fun H locs G => ?_)
        refine lv_if_eq (tgt := 169) S.1 S.2.1 dL_holds_156 (by decide) (fun h => absurd h hn3) (fun _ => ?_)
        refine lv_aload_n S.1 S.2.1 dL_holds_159 rfl (lv_at hl 4 rfl) ?_
        refine lv_iload S.1 S.2.1 dL_holds_160 (lv_at hl 1 rfl) ?_
        refine lv_iconst (v := (2 : Int32)) S.1 S.2.1 dL_holds_162 (by decide) ?_
        refine s_read (As := [.int (nI n), .int (2 : Int32)]) (rest := []) S hX G (r_leg_2 l E n hn) (cwV (bytes := cX8_leg) (maxL := 4) (ret := (some .int)) 2 S.2.2.2.2 gL_holds_X8_leg rfl rfl rfl (by decide +kernel) ⟨Nat.le_of_ble_eq_true rfl, Nat.le_of_ble_eq_true rfl⟩) rfl hl.1 rfl (Nat.le_of_ble_eq_true rfl) hf dL_holds_163 (fun H locs G => ?_)
        refine lv_if_ne (tgt := 173) S.1 S.2.1 dL_holds_166 (by decide) (fun h => absurd (hw hn3) h) (fun _ => ?_)
        refine lv_iconst (v := (1 : Int32)) S.1 S.2.1 dL_holds_169 (by decide) ?_
        refine lv_goto (tgt := 174) S.1 S.2.1 dL_holds_170 (by decide) ?_
        refine lv_istore (lv' := [(5, .int (1 : Int32)), (1, .long (lN (S0 + sw))), (6, .int (nI n)), (3, .long (lN T)), (0, .ref (E.2.2.2 0))]) S.1 S.2.1 dL_holds_174 hl (by decide) rfl (fun ls hl => ?_)
        refine lv_iinc (v := (nI (n + 1))) (lv' := [(6, .int (nI (n + 1))), (5, .int (1 : Int32)), (1, .long (lN (S0 + sw))), (3, .long (lN T)), (0, .ref (E.2.2.2 0))]) S.1 S.2.1 dL_holds_176 hl (k := 2) rfl (nI_1 n) (by decide) rfl (fun ls hl => ?_)
        refine lv_goto (tgt := 46) S.1 S.2.1 dL_holds_179 (by decide) ?_
        exact kk _ _ _ G (lv_sub hl [0, 1, 3, 2, 4] rfl)
    · refine lv_aload_n S.1 S.2.1 dL_holds_103 rfl (lv_at hl 4 rfl) ?_
      refine lv_iload S.1 S.2.1 dL_holds_104 (lv_at hl 1 rfl) ?_
      refine lv_iconst (v := (1 : Int32)) S.1 S.2.1 dL_holds_106 (by decide) ?_
      refine s_read (As := [.int (nI n), .int (1 : Int32)]) (rest := []) S hX G (r_leg_1 l E n hn) (cwV (bytes := cX8_leg) (maxL := 4) (ret := (some .int)) 2 S.2.2.2.2 gL_holds_X8_leg rfl rfl rfl (by decide +kernel) ⟨Nat.le_of_ble_eq_true rfl, Nat.le_of_ble_eq_true rfl⟩) rfl hl.1 rfl (Nat.le_of_ble_eq_true rfl) hf dL_holds_107 (fun H locs G => ?_)
      refine lv_if_le (tgt := 117) S.1 S.2.1 dL_holds_110 (by decide) (fun _ => ?_) (fun h => absurd (by rw [ha]; decide) h)
      refine lv_iconst (v := (0 : Int32)) S.1 S.2.1 dL_holds_117 (by decide) ?_
      refine lv_aload_n S.1 S.2.1 dL_holds_118 rfl (lv_at hl 4 rfl) ?_
      refine lv_iload S.1 S.2.1 dL_holds_119 (lv_at hl 1 rfl) ?_
      refine lv_iconst (v := (3 : Int32)) S.1 S.2.1 dL_holds_121 (by decide) ?_
      refine s_read (As := [.int (nI n), .int (3 : Int32)]) (rest := [.int (0 : Int32)]) S hX G (by have q := r_leg_3 l E (I := I) (L := L) n hn; rw [e2] at q; exact q) (cwV (bytes := cX8_leg) (maxL := 4) (ret := (some .int)) 2 S.2.2.2.2 gL_holds_X8_leg rfl rfl rfl (by decide +kernel) ⟨Nat.le_of_ble_eq_true rfl, Nat.le_of_ble_eq_true rfl⟩) rfl hl.1 rfl (Nat.le_of_ble_eq_true rfl) hf dL_holds_122 (fun H locs G => ?_)
      refine lv_if_ne (tgt := 142) S.1 S.2.1 dL_holds_125 (by decide) (fun _ => ?_) (fun h => absurd h (fun q => by have := (nI_z (by omega)).mp q; omega))
      refine lv_iconst (v := (0 : Int32)) S.1 S.2.1 dL_holds_142 (by decide) ?_
      refine lv_icmp_ne (tgt := 173) S.1 S.2.1 dL_holds_143 (by decide) (fun h => absurd (by decide) h) (fun _ => ?_)
      rcases Classical.em (I (ftn (n / 2)) 3 = 0) with hn3 | hn3
      · refine lv_aload_n S.1 S.2.1 dL_holds_146 rfl (lv_at hl 4 rfl) ?_
        refine lv_iload S.1 S.2.1 dL_holds_147 (lv_at hl 1 rfl) ?_
        refine lv_iconst (v := (2 : Int32)) S.1 S.2.1 dL_holds_149 (by decide) ?_
        refine s_idiv (v := (nI (n / 2))) S dL_holds_150 (by decide) (pk_div (a := n) (d := 2) (by omega) (by decide) (by decide)) ?_
        refine lv_bipush (v := (10 : Int32)) S.1 S.2.1 dL_holds_151 (by decide) ?_
        refine s_read (As := [.int (nI (n / 2)), .int (10 : Int32)]) (rest := []) S hX G (r_load_10 l E (n / 2) (by omega)) (cwV (bytes := cX8_load) (maxL := 4) (ret := (some .int)) 2 S.2.2.2.2 gL_holds_X8_load rfl rfl rfl (by decide +kernel) ⟨Nat.le_of_ble_eq_true rfl, Nat.le_of_ble_eq_true rfl⟩) rfl hl.1 rfl (Nat.le_of_ble_eq_true rfl) hf dL_holds_153 (fun H locs G => ?_)
        refine lv_if_eq (tgt := 169) S.1 S.2.1 dL_holds_156 (by decide) (fun _ => ?_) (fun h => absurd hn3 h)
        refine lv_iconst (v := (1 : Int32)) S.1 S.2.1 dL_holds_169 (by decide) ?_
        refine lv_goto (tgt := 174) S.1 S.2.1 dL_holds_170 (by decide) ?_
        refine lv_istore (lv' := [(5, .int (1 : Int32)), (1, .long (lN (S0 + sw))), (6, .int (nI n)), (3, .long (lN T)), (0, .ref (E.2.2.2 0))]) S.1 S.2.1 dL_holds_174 hl (by decide) rfl (fun ls hl => ?_)
        refine lv_iinc (v := (nI (n + 1))) (lv' := [(6, .int (nI (n + 1))), (5, .int (1 : Int32)), (1, .long (lN (S0 + sw))), (3, .long (lN T)), (0, .ref (E.2.2.2 0))]) S.1 S.2.1 dL_holds_176 hl (k := 2) rfl (nI_1 n) (by decide) rfl (fun ls hl => ?_)
        refine lv_goto (tgt := 46) S.1 S.2.1 dL_holds_179 (by decide) ?_
        exact kk _ _ _ G (lv_sub hl [0, 1, 3, 2, 4] rfl)
      · refine lv_aload_n S.1 S.2.1 dL_holds_146 rfl (lv_at hl 4 rfl) ?_
        refine lv_iload S.1 S.2.1 dL_holds_147 (lv_at hl 1 rfl) ?_
        refine lv_iconst (v := (2 : Int32)) S.1 S.2.1 dL_holds_149 (by decide) ?_
        refine s_idiv (v := (nI (n / 2))) S dL_holds_150 (by decide) (pk_div (a := n) (d := 2) (by omega) (by decide) (by decide)) ?_
        refine lv_bipush (v := (10 : Int32)) S.1 S.2.1 dL_holds_151 (by decide) ?_
        refine s_read (As := [.int (nI (n / 2)), .int (10 : Int32)]) (rest := []) S hX G (r_load_10 l E (n / 2) (by omega)) (cwV (bytes := cX8_load) (maxL := 4) (ret := (some .int)) 2 S.2.2.2.2 gL_holds_X8_load rfl rfl rfl (by decide +kernel) ⟨Nat.le_of_ble_eq_true rfl, Nat.le_of_ble_eq_true rfl⟩) rfl hl.1 rfl (Nat.le_of_ble_eq_true rfl) hf dL_holds_153 (fun H locs G => ?_)
        refine lv_if_eq (tgt := 169) S.1 S.2.1 dL_holds_156 (by decide) (fun h => absurd h hn3) (fun _ => ?_)
        refine lv_aload_n S.1 S.2.1 dL_holds_159 rfl (lv_at hl 4 rfl) ?_
        refine lv_iload S.1 S.2.1 dL_holds_160 (lv_at hl 1 rfl) ?_
        refine lv_iconst (v := (2 : Int32)) S.1 S.2.1 dL_holds_162 (by decide) ?_
        refine s_read (As := [.int (nI n), .int (2 : Int32)]) (rest := []) S hX G (r_leg_2 l E n hn) (cwV (bytes := cX8_leg) (maxL := 4) (ret := (some .int)) 2 S.2.2.2.2 gL_holds_X8_leg rfl rfl rfl (by decide +kernel) ⟨Nat.le_of_ble_eq_true rfl, Nat.le_of_ble_eq_true rfl⟩) rfl hl.1 rfl (Nat.le_of_ble_eq_true rfl) hf dL_holds_163 (fun H locs G => ?_)
        refine lv_if_ne (tgt := 173) S.1 S.2.1 dL_holds_166 (by decide) (fun h => absurd (hw hn3) h) (fun _ => ?_)
        refine lv_iconst (v := (1 : Int32)) S.1 S.2.1 dL_holds_169 (by decide) ?_
        refine lv_goto (tgt := 174) S.1 S.2.1 dL_holds_170 (by decide) ?_
        refine lv_istore (lv' := [(5, .int (1 : Int32)), (1, .long (lN (S0 + sw))), (6, .int (nI n)), (3, .long (lN T)), (0, .ref (E.2.2.2 0))]) S.1 S.2.1 dL_holds_174 hl (by decide) rfl (fun ls hl => ?_)
        refine lv_iinc (v := (nI (n + 1))) (lv' := [(6, .int (nI (n + 1))), (5, .int (1 : Int32)), (1, .long (lN (S0 + sw))), (3, .long (lN T)), (0, .ref (E.2.2.2 0))]) S.1 S.2.1 dL_holds_176 hl (k := 2) rfl (nI_1 n) (by decide) rfl (fun ls hl => ?_)
        refine lv_goto (tgt := 46) S.1 S.2.1 dL_holds_179 (by decide) ?_
        exact kk _ _ _ G (lv_sub hl [0, 1, 3, 2, 4] rfl)
  · refine lv_aload_n S.1 S.2.1 dL_holds_103 rfl (lv_at hl 4 rfl) ?_
    refine lv_iload S.1 S.2.1 dL_holds_104 (lv_at hl 1 rfl) ?_
    refine lv_iconst (v := (1 : Int32)) S.1 S.2.1 dL_holds_106 (by decide) ?_
    refine s_read (As := [.int (nI n), .int (1 : Int32)]) (rest := []) S hX G (r_leg_1 l E n hn) (cwV (bytes := cX8_leg) (maxL := 4) (ret := (some .int)) 2 S.2.2.2.2 gL_holds_X8_leg rfl rfl rfl (by decide +kernel) ⟨Nat.le_of_ble_eq_true rfl, Nat.le_of_ble_eq_true rfl⟩) rfl hl.1 rfl (Nat.le_of_ble_eq_true rfl) hf dL_holds_107 (fun H locs G => ?_)
    refine lv_if_le (tgt := 117) S.1 S.2.1 dL_holds_110 (by decide) (fun h => absurd h (fun q => Int32.not_lt.mpr q (Int32.lt_iff_toInt_lt.mpr (by rcases h1 with q | q | q <;> rw [q] <;> first | decide | exact absurd q ha)))) (fun _ => ?_)
    refine lv_iconst (v := (1 : Int32)) S.1 S.2.1 dL_holds_113 (by decide) ?_
    refine lv_goto (tgt := 118) S.1 S.2.1 dL_holds_114 (by decide) ?_
    refine lv_aload_n S.1 S.2.1 dL_holds_118 rfl (lv_at hl 4 rfl) ?_
    refine lv_iload S.1 S.2.1 dL_holds_119 (lv_at hl 1 rfl) ?_
    refine lv_iconst (v := (3 : Int32)) S.1 S.2.1 dL_holds_121 (by decide) ?_
    refine s_read (As := [.int (nI n), .int (3 : Int32)]) (rest := [.int (1 : Int32)]) S hX G (by have q := r_leg_3 l E (I := I) (L := L) n hn; rw [e2] at q; exact q) (cwV (bytes := cX8_leg) (maxL := 4) (ret := (some .int)) 2 S.2.2.2.2 gL_holds_X8_leg rfl rfl rfl (by decide +kernel) ⟨Nat.le_of_ble_eq_true rfl, Nat.le_of_ble_eq_true rfl⟩) rfl hl.1 rfl (Nat.le_of_ble_eq_true rfl) hf dL_holds_122 (fun H locs G => ?_)
    refine lv_if_ne (tgt := 142) S.1 S.2.1 dL_holds_125 (by decide) (fun h => absurd ((nI_z (by omega)).mpr (hn1 ha).1) h) (fun _ => ?_)
    refine lv_aload_n S.1 S.2.1 dL_holds_128 rfl (lv_at hl 4 rfl) ?_
    refine lv_iconst (v := (0 : Int32)) S.1 S.2.1 dL_holds_129 (by decide) ?_
    refine s_read (As := [.int (0 : Int32)]) (rest := [.int (1 : Int32)]) S hX G (r_count_0 l E k hk hk2) (cwV (bytes := cX8_count) (maxL := 2) (ret := (some .long)) 1 S.2.2.2.2 gL_holds_X8_count rfl rfl rfl (by decide +kernel) ⟨Nat.le_of_ble_eq_true rfl, Nat.le_of_ble_eq_true rfl⟩) rfl hl.1 rfl (Nat.le_of_ble_eq_true rfl) hf dL_holds_130 (fun H locs G => ?_)
    refine lv_lconst (v := (0 : Int64)) S.1 S.2.1 dL_holds_133 (by decide) ?_
    refine W.lcmp S.1 S.2.1 dL_holds_134 ?_
    refine s_if_le_c (tgt := 142) S dL_holds_135 (by decide) (fun h => absurd h (fun q => by have q := (pk_lLE (b := 0) (by omega) (by decide)).mp q; have := (hn1 ha).2; omega)) (fun _ => ?_)
    refine lv_iconst (v := (1 : Int32)) S.1 S.2.1 dL_holds_138 (by decide) ?_
    refine lv_goto (tgt := 143) S.1 S.2.1 dL_holds_139 (by decide) ?_
    refine lv_icmp_ne (tgt := 173) S.1 S.2.1 dL_holds_143 (by decide) (fun h => absurd (by decide) h) (fun _ => ?_)
    rcases Classical.em (I (ftn (n / 2)) 3 = 0) with hn3 | hn3
    · refine lv_aload_n S.1 S.2.1 dL_holds_146 rfl (lv_at hl 4 rfl) ?_
      refine lv_iload S.1 S.2.1 dL_holds_147 (lv_at hl 1 rfl) ?_
      refine lv_iconst (v := (2 : Int32)) S.1 S.2.1 dL_holds_149 (by decide) ?_
      refine s_idiv (v := (nI (n / 2))) S dL_holds_150 (by decide) (pk_div (a := n) (d := 2) (by omega) (by decide) (by decide)) ?_
      refine lv_bipush (v := (10 : Int32)) S.1 S.2.1 dL_holds_151 (by decide) ?_
      refine s_read (As := [.int (nI (n / 2)), .int (10 : Int32)]) (rest := []) S hX G (r_load_10 l E (n / 2) (by omega)) (cwV (bytes := cX8_load) (maxL := 4) (ret := (some .int)) 2 S.2.2.2.2 gL_holds_X8_load rfl rfl rfl (by decide +kernel) ⟨Nat.le_of_ble_eq_true rfl, Nat.le_of_ble_eq_true rfl⟩) rfl hl.1 rfl (Nat.le_of_ble_eq_true rfl) hf dL_holds_153 (fun H locs G => ?_)
      refine lv_if_eq (tgt := 169) S.1 S.2.1 dL_holds_156 (by decide) (fun _ => ?_) (fun h => absurd hn3 h)
      refine lv_iconst (v := (1 : Int32)) S.1 S.2.1 dL_holds_169 (by decide) ?_
      refine lv_goto (tgt := 174) S.1 S.2.1 dL_holds_170 (by decide) ?_
      refine lv_istore (lv' := [(5, .int (1 : Int32)), (1, .long (lN (S0 + sw))), (6, .int (nI n)), (3, .long (lN T)), (0, .ref (E.2.2.2 0))]) S.1 S.2.1 dL_holds_174 hl (by decide) rfl (fun ls hl => ?_)
      refine lv_iinc (v := (nI (n + 1))) (lv' := [(6, .int (nI (n + 1))), (5, .int (1 : Int32)), (1, .long (lN (S0 + sw))), (3, .long (lN T)), (0, .ref (E.2.2.2 0))]) S.1 S.2.1 dL_holds_176 hl (k := 2) rfl (nI_1 n) (by decide) rfl (fun ls hl => ?_)
      refine lv_goto (tgt := 46) S.1 S.2.1 dL_holds_179 (by decide) ?_
      exact kk _ _ _ G (lv_sub hl [0, 1, 3, 2, 4] rfl)
    · refine lv_aload_n S.1 S.2.1 dL_holds_146 rfl (lv_at hl 4 rfl) ?_
      refine lv_iload S.1 S.2.1 dL_holds_147 (lv_at hl 1 rfl) ?_
      refine lv_iconst (v := (2 : Int32)) S.1 S.2.1 dL_holds_149 (by decide) ?_
      refine s_idiv (v := (nI (n / 2))) S dL_holds_150 (by decide) (pk_div (a := n) (d := 2) (by omega) (by decide) (by decide)) ?_
      refine lv_bipush (v := (10 : Int32)) S.1 S.2.1 dL_holds_151 (by decide) ?_
      refine s_read (As := [.int (nI (n / 2)), .int (10 : Int32)]) (rest := []) S hX G (r_load_10 l E (n / 2) (by omega)) (cwV (bytes := cX8_load) (maxL := 4) (ret := (some .int)) 2 S.2.2.2.2 gL_holds_X8_load rfl rfl rfl (by decide +kernel) ⟨Nat.le_of_ble_eq_true rfl, Nat.le_of_ble_eq_true rfl⟩) rfl hl.1 rfl (Nat.le_of_ble_eq_true rfl) hf dL_holds_153 (fun H locs G => ?_)
      refine lv_if_eq (tgt := 169) S.1 S.2.1 dL_holds_156 (by decide) (fun h => absurd h hn3) (fun _ => ?_)
      refine lv_aload_n S.1 S.2.1 dL_holds_159 rfl (lv_at hl 4 rfl) ?_
      refine lv_iload S.1 S.2.1 dL_holds_160 (lv_at hl 1 rfl) ?_
      refine lv_iconst (v := (2 : Int32)) S.1 S.2.1 dL_holds_162 (by decide) ?_
      refine s_read (As := [.int (nI n), .int (2 : Int32)]) (rest := []) S hX G (r_leg_2 l E n hn) (cwV (bytes := cX8_leg) (maxL := 4) (ret := (some .int)) 2 S.2.2.2.2 gL_holds_X8_leg rfl rfl rfl (by decide +kernel) ⟨Nat.le_of_ble_eq_true rfl, Nat.le_of_ble_eq_true rfl⟩) rfl hl.1 rfl (Nat.le_of_ble_eq_true rfl) hf dL_holds_163 (fun H locs G => ?_)
      refine lv_if_ne (tgt := 173) S.1 S.2.1 dL_holds_166 (by decide) (fun h => absurd (hw hn3) h) (fun _ => ?_)
      refine lv_iconst (v := (1 : Int32)) S.1 S.2.1 dL_holds_169 (by decide) ?_
      refine lv_goto (tgt := 174) S.1 S.2.1 dL_holds_170 (by decide) ?_
      refine lv_istore (lv' := [(5, .int (1 : Int32)), (1, .long (lN (S0 + sw))), (6, .int (nI n)), (3, .long (lN T)), (0, .ref (E.2.2.2 0))]) S.1 S.2.1 dL_holds_174 hl (by decide) rfl (fun ls hl => ?_)
      refine lv_iinc (v := (nI (n + 1))) (lv' := [(6, .int (nI (n + 1))), (5, .int (1 : Int32)), (1, .long (lN (S0 + sw))), (3, .long (lN T)), (0, .ref (E.2.2.2 0))]) S.1 S.2.1 dL_holds_176 hl (k := 2) rfl (nI_1 n) (by decide) rfl (fun ls hl => ?_)
      refine lv_goto (tgt := 46) S.1 S.2.1 dL_holds_179 (by decide) ?_
      exact kk _ _ _ G (lv_sub hl [0, 1, 3, 2, 4] rfl)
