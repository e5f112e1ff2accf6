set_option maxRecDepth 100000 in
set_option maxHeartbeats 4000000 in
/-- one slot of one leg -/
theorem sn_in {pg : Program} {l : Launch} {eg : Env} {sg : State} {mg : MethodId} {args : Array Value} {below : List Frame} {meth : Method} {cg : Code} {H : Heap} {locs : List Loc} {Q : State → Prop} {ls : Array Slot} {E : Ev} {I : SI} {L : SL} {D k n b v pw st on off : Nat} (S : CallFix pg mg cg cL_seen 9 sg args wsL_seen RL) (hX : FX E sg) (G : GS E I L sg H locs) (hl : lv_has ls 9 [(7, .int (nI b)), (6, .int (nI off)), (5, .int (nI on)), (4, .int (nI pw)), (3, .int (nI n)), (2, .int (1 : Int32)), (1, .int (nI D)), (0, .ref (E.2.2.2 0))]) (hk : I 1 4 = nI k) (hk2 : k < 2 ^ 28) (hb : b < Nat.min k 32) (hb3 : b < 2 ^ 28) (hv : I 25 ((k - 1 - b) % 32) = nI v) (hv2 : v < 2 ^ 28) (hpw : 0 < pw) (hpw2 : pw < 2 ^ 28) (hst : v / pw % 3 = st) (hst2 : st ≤ 2) (hon : on ≤ 2) (hoff : off < 2 ^ 28) (hD : D < 2 ^ 28) (hok : st = 0 ∨ on = 0 ∨ (st = on ∧ off = 0) ∨ D ≤ off) (kk : ∀ on' off' : Nat, (st = 0 ∧ on' = on ∧ off' = off + 1) ∨ (0 < st ∧ on' = st ∧ off' = 0) → ∀ (H1 : Heap) (locs1 : List Loc) (ls1 : Array Slot), GS E I L sg H1 locs1 → lv_has ls1 9 [(7, .int (nI b - (1 : Int32))), (6, .int (nI off')), (5, .int (nI on')), (4, .int (nI pw)), (3, .int (nI n)), (2, .int (1 : Int32)), (1, .int (nI D)), (0, .ref (E.2.2.2 0))] → W pg l eg ({ frames := 4, cells := 0, slots := 0, locals := 100 } : Room) sg mg args below meth cg H1 locs1 0 0 Q (F0 mg 60 ls1 [])) : W pg l eg ({ frames := 4, cells := 0, slots := 0, locals := 100 } : Room) sg mg args below meth cg H locs 0 0 Q (F0 mg 60 ls []) := by
  have hf : 0 ≤ ({ frames := 4, cells := 0, slots := 0, locals := 100 } : Room).cells ∧ 0 ≤ ({ frames := 4, cells := 0, slots := 0, locals := 100 } : Room).slots := ⟨Nat.zero_le _, Nat.zero_le _⟩
  refine lv_iload S.1 S.2.1 dL_seen_60 (lv_at hl 0 rfl) ?_
  refine lv_if_lt (tgt := 152) S.1 S.2.1 dL_seen_62 (by decide) (fun h => absurd h (nI_pos (by omega))) (fun _ => ?_)
  refine lv_iload_n S.1 S.2.1 dL_seen_65 rfl (lv_at hl 5 rfl) ?_
  refine lv_if_eq (tgt := 152) S.1 S.2.1 dL_seen_66 (by decide) (fun h => absurd h (by decide)) (fun _ => ?_)
  refine lv_aload_n S.1 S.2.1 dL_seen_69 rfl (lv_at hl 7 rfl) ?_
  refine lv_iload S.1 S.2.1 dL_seen_70 (lv_at hl 0 rfl) ?_
  refine lv_iconst (v := (3 : Int32)) S.1 S.2.1 dL_seen_72 (by decide) ?_
  refine s_read (As := [.int (nI b), .int (3 : Int32)]) (rest := []) S hX G (by have q := r_scope_3 l E (I := I) (L := L) b k hk (by omega) hb; rw [hv] at q; exact q) (cwV (bytes := cX8_scope) (maxL := 4) (ret := (some .int)) 2 S.2.2.2.2 gL_seen_X8_scope rfl rfl rfl (by decide +kernel) ⟨Nat.le_of_ble_eq_true rfl, Nat.le_of_ble_eq_true rfl⟩) rfl hl.1 rfl (Nat.le_of_ble_eq_true rfl) hf dL_seen_73 (fun H locs G => ?_)
  refine lv_iload S.1 S.2.1 dL_seen_76 (lv_at hl 3 rfl) ?_
  refine s_idiv (v := (nI (v / pw))) S dL_seen_78 (fun q => by have := (nI_z (by omega)).mp q; omega) (pk_div (by omega) hpw (by omega)) ?_
  refine lv_iconst (v := (3 : Int32)) S.1 S.2.1 dL_seen_79 (by decide) ?_
  refine s_irem (v := (nI st)) S dL_seen_80 (by decide) (by have q := pk_rem (a := v / pw) (d := 3) (by have := Nat.div_le_self v pw; omega) (by decide) (by decide); rw [hst] at q; exact q) ?_
  refine lv_istore (lv' := [(8, .int (nI st)), (7, .int (nI b)), (6, .int (nI off)), (5, .int (nI on)), (4, .int (nI pw)), (3, .int (nI n)), (2, .int (1 : Int32)), (1, .int (nI D)), (0, .ref (E.2.2.2 0))]) S.1 S.2.1 dL_seen_81 hl (by decide) rfl (fun ls hl => ?_)
  rcases Nat.eq_zero_or_pos st with h0 | h0
  · refine lv_iload S.1 S.2.1 dL_seen_83 (lv_at hl 0 rfl) ?_
    refine lv_if_eq (tgt := 111) S.1 S.2.1 dL_seen_85 (by decide) (fun _ => ?_) (fun h => absurd ((nI_z (by omega)).mpr h0) h)
    refine lv_iconst (v := (1 : Int32)) S.1 S.2.1 dL_seen_111 (by decide) ?_
    refine lv_goto (tgt := 116) S.1 S.2.1 dL_seen_112 (by decide) ?_
    refine lv_istore_n (lv' := [(2, .int (1 : Int32)), (8, .int (nI st)), (7, .int (nI b)), (6, .int (nI off)), (5, .int (nI on)), (4, .int (nI pw)), (3, .int (nI n)), (1, .int (nI D)), (0, .ref (E.2.2.2 0))]) S.1 S.2.1 dL_seen_116 rfl hl (by decide) rfl (fun ls hl => ?_)
    refine lv_iload S.1 S.2.1 dL_seen_117 (lv_at hl 1 rfl) ?_
    refine lv_if_ne (tgt := 129) S.1 S.2.1 dL_seen_119 (by decide) (fun h => absurd ((nI_z (by omega)).mpr h0) h) (fun _ => ?_)
    refine lv_iload S.1 S.2.1 dL_seen_122 (lv_at hl 3 rfl) ?_
    refine lv_iconst (v := (1 : Int32)) S.1 S.2.1 dL_seen_124 (by decide) ?_
    refine s_iadd (v := (nI (off + 1))) S dL_seen_125 (nI_add off 1) ?_
    refine lv_goto (tgt := 130) S.1 S.2.1 dL_seen_126 (by decide) ?_
    refine lv_istore (lv' := [(6, .int (nI (off + 1))), (2, .int (1 : Int32)), (8, .int (nI st)), (7, .int (nI b)), (5, .int (nI on)), (4, .int (nI pw)), (3, .int (nI n)), (1, .int (nI D)), (0, .ref (E.2.2.2 0))]) S.1 S.2.1 dL_seen_130 hl (by decide) rfl (fun ls hl => ?_)
    refine lv_iload S.1 S.2.1 dL_seen_132 (lv_at hl 2 rfl) ?_
    refine lv_if_ne (tgt := 142) S.1 S.2.1 dL_seen_134 (by decide) (fun h => absurd ((nI_z (by omega)).mpr h0) h) (fun _ => ?_)
    refine lv_iload S.1 S.2.1 dL_seen_137 (lv_at hl 4 rfl) ?_
    refine lv_goto (tgt := 144) S.1 S.2.1 dL_seen_139 (by decide) ?_
    refine lv_istore (lv' := [(5, .int (nI on)), (6, .int (nI (off + 1))), (2, .int (1 : Int32)), (8, .int (nI st)), (7, .int (nI b)), (4, .int (nI pw)), (3, .int (nI n)), (1, .int (nI D)), (0, .ref (E.2.2.2 0))]) S.1 S.2.1 dL_seen_144 hl (by decide) rfl (fun ls hl => ?_)
    refine lv_iinc (v := (nI b - (1 : Int32))) (lv' := [(7, .int (nI b - (1 : Int32))), (5, .int (nI on)), (6, .int (nI (off + 1))), (2, .int (1 : Int32)), (8, .int (nI st)), (4, .int (nI pw)), (3, .int (nI n)), (1, .int (nI D)), (0, .ref (E.2.2.2 0))]) S.1 S.2.1 dL_seen_146 hl (k := 4) rfl (by rw [Int32.sub_eq_add_neg]; rfl) (by decide) rfl (fun ls hl => ?_)
    refine lv_goto (tgt := 60) S.1 S.2.1 dL_seen_149 (by decide) ?_
    exact kk on (off + 1) (Or.inl ⟨h0, rfl, rfl⟩) _ _ _ G (lv_sub hl [0, 2, 1, 5, 6, 3, 7, 8] rfl)
  · rcases Nat.eq_zero_or_pos on with h1 | h1
    · refine lv_iload S.1 S.2.1 dL_seen_83 (lv_at hl 0 rfl) ?_
      refine lv_if_eq (tgt := 111) S.1 S.2.1 dL_seen_85 (by decide) (fun h => absurd h (fun q => by have := (nI_z (by omega)).mp q; omega)) (fun _ => ?_)
      refine lv_iload S.1 S.2.1 dL_seen_88 (lv_at hl 3 rfl) ?_
      refine lv_if_eq (tgt := 111) S.1 S.2.1 dL_seen_90 (by decide) (fun _ => ?_) (fun h => absurd ((nI_z (by omega)).mpr h1) h)
      refine lv_iconst (v := (1 : Int32)) S.1 S.2.1 dL_seen_111 (by decide) ?_
      refine lv_goto (tgt := 116) S.1 S.2.1 dL_seen_112 (by decide) ?_
      refine lv_istore_n (lv' := [(2, .int (1 : Int32)), (8, .int (nI st)), (7, .int (nI b)), (6, .int (nI off)), (5, .int (nI on)), (4, .int (nI pw)), (3, .int (nI n)), (1, .int (nI D)), (0, .ref (E.2.2.2 0))]) S.1 S.2.1 dL_seen_116 rfl hl (by decide) rfl (fun ls hl => ?_)
      refine lv_iload S.1 S.2.1 dL_seen_117 (lv_at hl 1 rfl) ?_
      refine lv_if_ne (tgt := 129) S.1 S.2.1 dL_seen_119 (by decide) (fun _ => ?_) (fun h => absurd h (fun q => by have := (nI_z (by omega)).mp q; omega))
      refine lv_iconst (v := (0 : Int32)) S.1 S.2.1 dL_seen_129 (by decide) ?_
      refine lv_istore (lv' := [(6, .int (0 : Int32)), (2, .int (1 : Int32)), (8, .int (nI st)), (7, .int (nI b)), (5, .int (nI on)), (4, .int (nI pw)), (3, .int (nI n)), (1, .int (nI D)), (0, .ref (E.2.2.2 0))]) S.1 S.2.1 dL_seen_130 hl (by decide) rfl (fun ls hl => ?_)
      refine lv_iload S.1 S.2.1 dL_seen_132 (lv_at hl 2 rfl) ?_
      refine lv_if_ne (tgt := 142) S.1 S.2.1 dL_seen_134 (by decide) (fun _ => ?_) (fun h => absurd h (fun q => by have := (nI_z (by omega)).mp q; omega))
      refine lv_iload S.1 S.2.1 dL_seen_142 (lv_at hl 2 rfl) ?_
      refine lv_istore (lv' := [(5, .int (nI st)), (6, .int (0 : Int32)), (2, .int (1 : Int32)), (8, .int (nI st)), (7, .int (nI b)), (4, .int (nI pw)), (3, .int (nI n)), (1, .int (nI D)), (0, .ref (E.2.2.2 0))]) S.1 S.2.1 dL_seen_144 hl (by decide) rfl (fun ls hl => ?_)
      refine lv_iinc (v := (nI b - (1 : Int32))) (lv' := [(7, .int (nI b - (1 : Int32))), (5, .int (nI st)), (6, .int (0 : Int32)), (2, .int (1 : Int32)), (8, .int (nI st)), (4, .int (nI pw)), (3, .int (nI n)), (1, .int (nI D)), (0, .ref (E.2.2.2 0))]) S.1 S.2.1 dL_seen_146 hl (k := 4) rfl (by rw [Int32.sub_eq_add_neg]; rfl) (by decide) rfl (fun ls hl => ?_)
      refine lv_goto (tgt := 60) S.1 S.2.1 dL_seen_149 (by decide) ?_
      exact kk st 0 (Or.inr ⟨h0, rfl, rfl⟩) _ _ _ G (lv_sub hl [0, 2, 1, 5, 6, 3, 7, 8] rfl)
    · rcases Classical.em (st = on) with h2 | h2
      · rcases Nat.eq_zero_or_pos off with h3 | h3
        · refine lv_iload S.1 S.2.1 dL_seen_83 (lv_at hl 0 rfl) ?_
          refine lv_if_eq (tgt := 111) S.1 S.2.1 dL_seen_85 (by decide) (fun h => absurd h (fun q => by have := (nI_z (by omega)).mp q; omega)) (fun _ => ?_)
          refine lv_iload S.1 S.2.1 dL_seen_88 (lv_at hl 3 rfl) ?_
          refine lv_if_eq (tgt := 111) S.1 S.2.1 dL_seen_90 (by decide) (fun h => absurd h (fun q => by have := (nI_z (by omega)).mp q; omega)) (fun _ => ?_)
          refine lv_iload S.1 S.2.1 dL_seen_93 (lv_at hl 0 rfl) ?_
          refine lv_iload S.1 S.2.1 dL_seen_95 (lv_at hl 3 rfl) ?_
          refine lv_icmp_ne (tgt := 105) S.1 S.2.1 dL_seen_97 (by decide) (fun h => absurd (congrArg nI h2) h) (fun _ => ?_)
          refine lv_iload S.1 S.2.1 dL_seen_100 (lv_at hl 2 rfl) ?_
          refine lv_if_eq (tgt := 111) S.1 S.2.1 dL_seen_102 (by decide) (fun _ => ?_) (fun h => absurd ((nI_z (by omega)).mpr h3) h)
          refine lv_iconst (v := (1 : Int32)) S.1 S.2.1 dL_seen_111 (by decide) ?_
          refine lv_goto (tgt := 116) S.1 S.2.1 dL_seen_112 (by decide) ?_
          refine lv_istore_n (lv' := [(2, .int (1 : Int32)), (8, .int (nI st)), (7, .int (nI b)), (6, .int (nI off)), (5, .int (nI on)), (4, .int (nI pw)), (3, .int (nI n)), (1, .int (nI D)), (0, .ref (E.2.2.2 0))]) S.1 S.2.1 dL_seen_116 rfl hl (by decide) rfl (fun ls hl => ?_)
          refine lv_iload S.1 S.2.1 dL_seen_117 (lv_at hl 1 rfl) ?_
          refine lv_if_ne (tgt := 129) S.1 S.2.1 dL_seen_119 (by decide) (fun _ => ?_) (fun h => absurd h (fun q => by have := (nI_z (by omega)).mp q; omega))
          refine lv_iconst (v := (0 : Int32)) S.1 S.2.1 dL_seen_129 (by decide) ?_
          refine lv_istore (lv' := [(6, .int (0 : Int32)), (2, .int (1 : Int32)), (8, .int (nI st)), (7, .int (nI b)), (5, .int (nI on)), (4, .int (nI pw)), (3, .int (nI n)), (1, .int (nI D)), (0, .ref (E.2.2.2 0))]) S.1 S.2.1 dL_seen_130 hl (by decide) rfl (fun ls hl => ?_)
          refine lv_iload S.1 S.2.1 dL_seen_132 (lv_at hl 2 rfl) ?_
          refine lv_if_ne (tgt := 142) S.1 S.2.1 dL_seen_134 (by decide) (fun _ => ?_) (fun h => absurd h (fun q => by have := (nI_z (by omega)).mp q; omega))
          refine lv_iload S.1 S.2.1 dL_seen_142 (lv_at hl 2 rfl) ?_
          refine lv_istore (lv' := [(5, .int (nI st)), (6, .int (0 : Int32)), (2, .int (1 : Int32)), (8, .int (nI st)), (7, .int (nI b)), (4, .int (nI pw)), (3, .int (nI n)), (1, .int (nI D)), (0, .ref (E.2.2.2 0))]) S.1 S.2.1 dL_seen_144 hl (by decide) rfl (fun ls hl => ?_)
          refine lv_iinc (v := (nI b - (1 : Int32))) (lv' := [(7, .int (nI b - (1 : Int32))), (5, .int (nI st)), (6, .int (0 : Int32)), (2, .int (1 : Int32)), (8, .int (nI st)), (4, .int (nI pw)), (3, .int (nI n)), (1, .int (nI D)), (0, .ref (E.2.2.2 0))]) S.1 S.2.1 dL_seen_146 hl (k := 4) rfl (by rw [Int32.sub_eq_add_neg]; rfl) (by decide) rfl (fun ls hl => ?_)
          refine lv_goto (tgt := 60) S.1 S.2.1 dL_seen_149 (by decide) ?_
          exact kk st 0 (Or.inr ⟨h0, rfl, rfl⟩) _ _ _ G (lv_sub hl [0, 2, 1, 5, 6, 3, 7, 8] rfl)
        · refine lv_iload S.1 S.2.1 dL_seen_83 (lv_at hl 0 rfl) ?_
          refine lv_if_eq (tgt := 111) S.1 S.2.1 dL_seen_85 (by decide) (fun h => absurd h (fun q => by have := (nI_z (by omega)).mp q; omega)) (fun _ => ?_)
          refine lv_iload S.1 S.2.1 dL_seen_88 (lv_at hl 3 rfl) ?_
          refine lv_if_eq (tgt := 111) S.1 S.2.1 dL_seen_90 (by decide) (fun h => absurd h (fun q => by have := (nI_z (by omega)).mp q; omega)) (fun _ => ?_)
          refine lv_iload S.1 S.2.1 dL_seen_93 (lv_at hl 0 rfl) ?_
          refine lv_iload S.1 S.2.1 dL_seen_95 (lv_at hl 3 rfl) ?_
          refine lv_icmp_ne (tgt := 105) S.1 S.2.1 dL_seen_97 (by decide) (fun h => absurd (congrArg nI h2) h) (fun _ => ?_)
          refine lv_iload S.1 S.2.1 dL_seen_100 (lv_at hl 2 rfl) ?_
          refine lv_if_eq (tgt := 111) S.1 S.2.1 dL_seen_102 (by decide) (fun h => absurd h (fun q => by have := (nI_z (by omega)).mp q; omega)) (fun _ => ?_)
          refine lv_iload S.1 S.2.1 dL_seen_105 (lv_at hl 2 rfl) ?_
          refine lv_iload_n S.1 S.2.1 dL_seen_107 rfl (lv_at hl 7 rfl) ?_
          refine lv_icmp_lt (tgt := 115) S.1 S.2.1 dL_seen_108 (by decide) (fun h => absurd h (fun q => by have := (nI_lt_iff (by omega) (by omega)).mp q; omega)) (fun _ => ?_)
          refine lv_iconst (v := (1 : Int32)) S.1 S.2.1 dL_seen_111 (by decide) ?_
          refine lv_goto (tgt := 116) S.1 S.2.1 dL_seen_112 (by decide) ?_
          refine lv_istore_n (lv' := [(2, .int (1 : Int32)), (8, .int (nI st)), (7, .int (nI b)), (6, .int (nI off)), (5, .int (nI on)), (4, .int (nI pw)), (3, .int (nI n)), (1, .int (nI D)), (0, .ref (E.2.2.2 0))]) S.1 S.2.1 dL_seen_116 rfl hl (by decide) rfl (fun ls hl => ?_)
          refine lv_iload S.1 S.2.1 dL_seen_117 (lv_at hl 1 rfl) ?_
          refine lv_if_ne (tgt := 129) S.1 S.2.1 dL_seen_119 (by decide) (fun _ => ?_) (fun h => absurd h (fun q => by have := (nI_z (by omega)).mp q; omega))
          refine lv_iconst (v := (0 : Int32)) S.1 S.2.1 dL_seen_129 (by decide) ?_
          refine lv_istore (lv' := [(6, .int (0 : Int32)), (2, .int (1 : Int32)), (8, .int (nI st)), (7, .int (nI b)), (5, .int (nI on)), (4, .int (nI pw)), (3, .int (nI n)), (1, .int (nI D)), (0, .ref (E.2.2.2 0))]) S.1 S.2.1 dL_seen_130 hl (by decide) rfl (fun ls hl => ?_)
          refine lv_iload S.1 S.2.1 dL_seen_132 (lv_at hl 2 rfl) ?_
          refine lv_if_ne (tgt := 142) S.1 S.2.1 dL_seen_134 (by decide) (fun _ => ?_) (fun h => absurd h (fun q => by have := (nI_z (by omega)).mp q; omega))
          refine lv_iload S.1 S.2.1 dL_seen_142 (lv_at hl 2 rfl) ?_
          refine lv_istore (lv' := [(5, .int (nI st)), (6, .int (0 : Int32)), (2, .int (1 : Int32)), (8, .int (nI st)), (7, .int (nI b)), (4, .int (nI pw)), (3, .int (nI n)), (1, .int (nI D)), (0, .ref (E.2.2.2 0))]) S.1 S.2.1 dL_seen_144 hl (by decide) rfl (fun ls hl => ?_)
          refine lv_iinc (v := (nI b - (1 : Int32))) (lv' := [(7, .int (nI b - (1 : Int32))), (5, .int (nI st)), (6, .int (0 : Int32)), (2, .int (1 : Int32)), (8, .int (nI st)), (4, .int (nI pw)), (3, .int (nI n)), (1, .int (nI D)), (0, .ref (E.2.2.2 0))]) S.1 S.2.1 dL_seen_146 hl (k := 4) rfl (by rw [Int32.sub_eq_add_neg]; rfl) (by decide) rfl (fun ls hl => ?_)
          refine lv_goto (tgt := 60) S.1 S.2.1 dL_seen_149 (by decide) ?_
          exact kk st 0 (Or.inr ⟨h0, rfl, rfl⟩) _ _ _ G (lv_sub hl [0, 2, 1, 5, 6, 3, 7, 8] rfl)
      · refine lv_iload S.1 S.2.1 dL_seen_83 (lv_at hl 0 rfl) ?_
        refine lv_if_eq (tgt := 111) S.1 S.2.1 dL_seen_85 (by decide) (fun h => absurd h (fun q => by have := (nI_z (by omega)).mp q; omega)) (fun _ => ?_)
        refine lv_iload S.1 S.2.1 dL_seen_88 (lv_at hl 3 rfl) ?_
        refine lv_if_eq (tgt := 111) S.1 S.2.1 dL_seen_90 (by decide) (fun h => absurd h (fun q => by have := (nI_z (by omega)).mp q; omega)) (fun _ => ?_)
        refine lv_iload S.1 S.2.1 dL_seen_93 (lv_at hl 0 rfl) ?_
        refine lv_iload S.1 S.2.1 dL_seen_95 (lv_at hl 3 rfl) ?_
        refine lv_icmp_ne (tgt := 105) S.1 S.2.1 dL_seen_97 (by decide) (fun _ => ?_) (fun h => absurd h (fun q => h2 (nI_inj (by omega) (by omega) q)))
        refine lv_iload S.1 S.2.1 dL_seen_105 (lv_at hl 2 rfl) ?_
        refine lv_iload_n S.1 S.2.1 dL_seen_107 rfl (lv_at hl 7 rfl) ?_
        refine lv_icmp_lt (tgt := 115) S.1 S.2.1 dL_seen_108 (by decide) (fun h => absurd h (fun q => by have := (nI_lt_iff (by omega) (by omega)).mp q; omega)) (fun _ => ?_)
        refine lv_iconst (v := (1 : Int32)) S.1 S.2.1 dL_seen_111 (by decide) ?_
        refine lv_goto (tgt := 116) S.1 S.2.1 dL_seen_112 (by decide) ?_
        refine lv_istore_n (lv' := [(2, .int (1 : Int32)), (8, .int (nI st)), (7, .int (nI b)), (6, .int (nI off)), (5, .int (nI on)), (4, .int (nI pw)), (3, .int (nI n)), (1, .int (nI D)), (0, .ref (E.2.2.2 0))]) S.1 S.2.1 dL_seen_116 rfl hl (by decide) rfl (fun ls hl => ?_)
        refine lv_iload S.1 S.2.1 dL_seen_117 (lv_at hl 1 rfl) ?_
        refine lv_if_ne (tgt := 129) S.1 S.2.1 dL_seen_119 (by decide) (fun _ => ?_) (fun h => absurd h (fun q => by have := (nI_z (by omega)).mp q; omega))
        refine lv_iconst (v := (0 : Int32)) S.1 S.2.1 dL_seen_129 (by decide) ?_
        refine lv_istore (lv' := [(6, .int (0 : Int32)), (2, .int (1 : Int32)), (8, .int (nI st)), (7, .int (nI b)), (5, .int (nI on)), (4, .int (nI pw)), (3, .int (nI n)), (1, .int (nI D)), (0, .ref (E.2.2.2 0))]) S.1 S.2.1 dL_seen_130 hl (by decide) rfl (fun ls hl => ?_)
        refine lv_iload S.1 S.2.1 dL_seen_132 (lv_at hl 2 rfl) ?_
        refine lv_if_ne (tgt := 142) S.1 S.2.1 dL_seen_134 (by decide) (fun _ => ?_) (fun h => absurd h (fun q => by have := (nI_z (by omega)).mp q; omega))
        refine lv_iload S.1 S.2.1 dL_seen_142 (lv_at hl 2 rfl) ?_
        refine lv_istore (lv' := [(5, .int (nI st)), (6, .int (0 : Int32)), (2, .int (1 : Int32)), (8, .int (nI st)), (7, .int (nI b)), (4, .int (nI pw)), (3, .int (nI n)), (1, .int (nI D)), (0, .ref (E.2.2.2 0))]) S.1 S.2.1 dL_seen_144 hl (by decide) rfl (fun ls hl => ?_)
        refine lv_iinc (v := (nI b - (1 : Int32))) (lv' := [(7, .int (nI b - (1 : Int32))), (5, .int (nI st)), (6, .int (0 : Int32)), (2, .int (1 : Int32)), (8, .int (nI st)), (4, .int (nI pw)), (3, .int (nI n)), (1, .int (nI D)), (0, .ref (E.2.2.2 0))]) S.1 S.2.1 dL_seen_146 hl (k := 4) rfl (by rw [Int32.sub_eq_add_neg]; rfl) (by decide) rfl (fun ls hl => ?_)
        refine lv_goto (tgt := 60) S.1 S.2.1 dL_seen_149 (by decide) ?_
        exact kk st 0 (Or.inr ⟨h0, rfl, rfl⟩) _ _ _ G (lv_sub hl [0, 2, 1, 5, 6, 3, 7, 8] rfl)
