def decF (x : Int32) : Int32 := if x ≤ 0 then 0 else 1
def heldM (d : Nat → Int32) : Nat → Int32 := upd (upd d 101 (d 101 + d 47)) 101 (d 101 + d 47 + d 77)
def tg1 (d : Nat → Int32) (w0 : Int32) : Nat → Int32 := tlF (heldM d) 8 40 (nowF (heldM d) 8 w0)
def tg2 (d : Nat → Int32) (w0 w1 : Int32) : Nat → Int32 := tlF (tg1 d w0) 16 40 (nowF (tg1 d w0) 16 w1)
def tg3 (d : Nat → Int32) (w0 w1 w2 : Int32) : Nat → Int32 := tlF (tg2 d w0 w1) 24 70 (nowF (tg2 d w0 w1) 24 w2)
def tg4 (d : Nat → Int32) (w0 w1 w2 w3 : Int32) : Nat → Int32 := tlF (tg3 d w0 w1 w2) 32 70 (nowF (tg3 d w0 w1 w2) 32 w3)
def lk3 (d : Nat → Int32) (l L : Nat) : Nat → Int32 := lkF (htF (flF d l L) L) L
def dcM (d : Nat → Int32) (L : Nat) : Nat → Int32 := upd d (L + 8) (d (L + 8) - decF (d (L + 8)))
def gA (d : Nat → Int32) (w0 w1 w2 w3 : Int32) : Nat → Int32 := latM (lk3 (tg4 d w0 w1 w2 w3) 8 40) 40
def gB (d : Nat → Int32) (w0 w1 w2 w3 : Int32) : Nat → Int32 := dcM (gA d w0 w1 w2 w3) 40
def gC (d : Nat → Int32) (w0 w1 w2 w3 : Int32) : Nat → Int32 := latM (lk3 (gB d w0 w1 w2 w3) 24 70) 70
def gD (d : Nat → Int32) (w0 w1 w2 w3 : Int32) : Nat → Int32 := dcM (gC d w0 w1 w2 w3) 70
def gE (d : Nat → Int32) (w0 w1 w2 w3 : Int32) : Nat → Int32 := kpF (gD d w0 w1 w2 w3)
def gsW (d : Nat → Int32) (w0 w1 w2 w3 : Int32) : Nat → Int32 := upd (gE d w0 w1 w2 w3) 0 (gE d w0 w1 w2 w3 0 + 1)
def gsRW (d : Nat → Int32) (w0 w1 w2 w3 : Int32) : Int32 := 0 + latR (lk3 (tg4 d w0 w1 w2 w3) 8 40) 40 + latR (lk3 (gB d w0 w1 w2 w3) 24 70) 70
def gsLW (d : Nat → Int32) (w0 w1 w2 w3 : Int32) (sz : Int64) : Int64 := sz + Int32.toInt64 (absM (gB d w0 w1 w2 w3 44)) + Int32.toInt64 (absM (gD d w0 w1 w2 w3 74))
theorem updL_updL {f : Nat → Int64} {k : Nat} {a b : Int64} : vp_updL (vp_updL f k a) k b = vp_updL f k b := by
  funext z
  unfold vp_updL
  by_cases h : z = k <;> simp [h]
theorem in3 {a : Nat} (h : a < 3) : nI a = 0 ∨ nI a = 1 ∨ nI a = 2 := by
  rcases (show a = 0 ∨ a = 1 ∨ a = 2 by omega) with rfl | rfl | rfl
  · exact Or.inl rfl
  · exact Or.inr (Or.inl rfl)
  · exact Or.inr (Or.inr rfl)
theorem of3 {x : Int32} (h : x = 0 ∨ x = 1 ∨ x = 2) : ∃ a, a < 3 ∧ x = nI a := by
  rcases h with rfl | rfl | rfl
  · exact ⟨0, by decide, rfl⟩
  · exact ⟨1, by decide, rfl⟩
  · exact ⟨2, by decide, rfl⟩
theorem wsh_in {d : Nat → Int32} {n l L : Nat} (h0 : d l = 0 ∨ d l = 1 ∨ d l = 2) (h8 : n % 2 = 0 → d (l + 8) = 0 ∨ d (l + 8) = 1 ∨ d (l + 8) = 2) : ∃ a, a < 3 ∧ wshF d n l L = nI a := by
  apply of3
  unfold wshF
  split
  · exact Or.inl rfl
  · split
    · rename_i h
      exact h8 h.1
    · exact h0
set_option maxHeartbeats 1000000 in
set_option maxRecDepth 100000 in
theorem k_X9_goes (l : Launch) (E : Ev) {I : SI} {L : SL} (d : Nat → Int32) (lx : Nat → Int64) (e_d : I (162) = d) (e_lx : L (161) = lx) (hc0 : d 8 = 0 ∨ d 8 = 1 ∨ d 8 = 2) (hc1 : d 16 = 0 ∨ d 16 = 1 ∨ d 16 = 2) (hc2 : d 24 = 0 ∨ d 24 = 1 ∨ d 24 = 2) (hc3 : d 32 = 0 ∨ d 32 = 1 ∨ d 32 = 2) : CS l yX9_goes wsX9_goes ({ frames := 4, cells := 0, slots := 0, locals := 89 }) E [.ref (E.2.2.2 161)] I L (fun vv I' L' => vv = some (.int (gsRW d (wshF d 0 8 40) (wshF d 1 16 40) (wshF d 2 24 70) (wshF d 3 32 70))) ∧ I' = (up I (162) (gsW d (wshF d 0 8 40) (wshF d 1 16 40) (wshF d 2 24 70) (wshF d 3 32 70))) ∧ L' = (upL L (161) (vp_updL lx 3 (gsLW d (wshF d 0 8 40) (wshF d 1 16 40) (wshF d 2 24 70) (wshF d 3 32 70) (lx 3))))) := by
  refine CS.of (cc := cX9_goes) (maxL := 4) (ret := (some .int)) (by decide) rfl (Nat.le_of_ble_eq_true rfl) ?_
  intro pg en sg mg below meth cg ls S hr hlk hX G hl
  have S : CallFix pg mg cg cX9_goes 4 sg _ wsX9_goes RX9 := S
  have hl : lv_has ls 4 [(0, .ref (E.2.2.2 161))] := hl
  obtain ⟨a0, ha0, ew0⟩ := wsh_in (d := d) (n := 0) (l := 8) (L := 40) hc0 (fun h => hc1)
  obtain ⟨a1, ha1, ew1⟩ := wsh_in (d := d) (n := 1) (l := 16) (L := 40) hc1 (fun h => absurd h (by decide))
  obtain ⟨a2, ha2, ew2⟩ := wsh_in (d := d) (n := 2) (l := 24) (L := 70) hc2 (fun h => hc3)
  obtain ⟨a3, ha3, ew3⟩ := wsh_in (d := d) (n := 3) (l := 32) (L := 70) hc3 (fun h => absurd h (by decide))
  refine lv_iconst (v := (0 : Int32)) S.1 S.2.1 dX9_goes_0 (by decide) ?_
  refine lv_istore_n (lv' := [(1, .int (0 : Int32)), (0, .ref (E.2.2.2 161))]) S.1 S.2.1 dX9_goes_1 rfl hl (by decide) rfl (fun ls hl => ?_)
  refine lv_iconst (v := (3 : Int32)) S.1 S.2.1 dX9_goes_2 (by decide) ?_
  refine lv_istore_n (lv' := [(2, .int (3 : Int32)), (1, .int (0 : Int32)), (0, .ref (E.2.2.2 161))]) S.1 S.2.1 dX9_goes_3 rfl hl (by decide) rfl (fun ls hl => ?_)
  refine lv_iload_n S.1 S.2.1 dX9_goes_4 rfl (lv_at hl 0 rfl) ?_
  refine lv_if_lt (tgt := 24) S.1 S.2.1 dX9_goes_5 (by decide) (fun h => absurd h (by decide)) (fun _ => ?_)
  refine lv_iconst (v := (3 : Int32)) S.1 S.2.1 dX9_goes_8 (by decide) ?_
  refine lv_iload_n S.1 S.2.1 dX9_goes_9 rfl (lv_at hl 1 rfl) ?_
  refine s_imul (v := (0 : Int32)) S dX9_goes_10 (by decide) ?_
  refine lv_aload_n S.1 S.2.1 dX9_goes_11 rfl (lv_at hl 2 rfl) ?_
  refine lv_iload_n S.1 S.2.1 dX9_goes_12 rfl (lv_at hl 0 rfl) ?_
  refine s_callV (C := RX9) (As := [.int (3 : Int32)]) (rest := [.int (0 : Int32)]) (i := 161) (kd := 9) S hX G (k_X9_wish_3 l E d e_d) (cwV (bytes := cX9_wish) (maxL := 4) (ret := (some .int)) 1 S.2.2.2.2 gX9_goes_X9_wish rfl rfl rfl (by decide +kernel) ⟨Nat.le_of_ble_eq_true rfl, Nat.le_of_ble_eq_true rfl⟩) (rfl : sh 161 = 9) rfl rfl rfl (by decide) rfl hl.1 rfl (Nat.le_of_ble_eq_true rfl) ⟨Nat.zero_le _, Nat.zero_le _⟩ dX9_goes_13 (fun v I1 L1 H locs hR G => ?_)
  obtain ⟨hv, hI, hL⟩ := hR
  subst hv
  have G : GS E I L sg H locs := G.same hI hL
  refine W.eq (g2 := F0 mg 16 ls [.int (wshF d 3 32 70), .int (0 : Int32)]) rfl ?_
  refine s_conv (y := (nI a3)) ew3 ?_
  refine s_iadd (v := (nI (0 + a3))) S dX9_goes_16 (nI_add 0 a3) ?_
  refine lv_istore_n (lv' := [(1, .int (nI (0 + a3))), (2, .int (3 : Int32)), (0, .ref (E.2.2.2 161))]) S.1 S.2.1 dX9_goes_17 rfl hl (by decide) rfl (fun ls hl => ?_)
  refine lv_iinc (v := (2 : Int32)) (lv' := [(2, .int (2 : Int32)), (1, .int (nI (0 + a3))), (0, .ref (E.2.2.2 161))]) S.1 S.2.1 dX9_goes_18 hl (k := 1) rfl (by decide) (by decide) rfl (fun ls hl => ?_)
  refine lv_goto (tgt := 4) S.1 S.2.1 dX9_goes_21 (by decide) ?_
  refine lv_iload_n S.1 S.2.1 dX9_goes_4 rfl (lv_at hl 0 rfl) ?_
  refine lv_if_lt (tgt := 24) S.1 S.2.1 dX9_goes_5 (by decide) (fun h => absurd h (by decide)) (fun _ => ?_)
  refine lv_iconst (v := (3 : Int32)) S.1 S.2.1 dX9_goes_8 (by decide) ?_
  refine lv_iload_n S.1 S.2.1 dX9_goes_9 rfl (lv_at hl 1 rfl) ?_
  refine s_imul (v := (nI (3 * (0 + a3)))) S dX9_goes_10 (pk_mul 3 (0 + a3)) ?_
  refine lv_aload_n S.1 S.2.1 dX9_goes_11 rfl (lv_at hl 2 rfl) ?_
  refine lv_iload_n S.1 S.2.1 dX9_goes_12 rfl (lv_at hl 0 rfl) ?_
  refine s_callV (C := RX9) (As := [.int (2 : Int32)]) (rest := [.int (nI (3 * (0 + a3)))]) (i := 161) (kd := 9) S hX G (k_X9_wish_2 l E d e_d) (cwV (bytes := cX9_wish) (maxL := 4) (ret := (some .int)) 1 S.2.2.2.2 gX9_goes_X9_wish rfl rfl rfl (by decide +kernel) ⟨Nat.le_of_ble_eq_true rfl, Nat.le_of_ble_eq_true rfl⟩) (rfl : sh 161 = 9) rfl rfl rfl (by decide) rfl hl.1 rfl (Nat.le_of_ble_eq_true rfl) ⟨Nat.zero_le _, Nat.zero_le _⟩ dX9_goes_13 (fun v I1 L1 H locs hR G => ?_)
  obtain ⟨hv, hI, hL⟩ := hR
  subst hv
  have G : GS E I L sg H locs := G.same hI hL
  refine W.eq (g2 := F0 mg 16 ls [.int (wshF d 2 24 70), .int (nI (3 * (0 + a3)))]) rfl ?_
  refine s_conv (y := (nI a2)) ew2 ?_
  refine s_iadd (v := (nI ((3 * (0 + a3)) + a2))) S dX9_goes_16 (nI_add (3 * (0 + a3)) a2) ?_
  refine lv_istore_n (lv' := [(1, .int (nI ((3 * (0 + a3)) + a2))), (2, .int (2 : Int32)), (0, .ref (E.2.2.2 161))]) S.1 S.2.1 dX9_goes_17 rfl hl (by decide) rfl (fun ls hl => ?_)
  refine lv_iinc (v := (1 : Int32)) (lv' := [(2, .int (1 : Int32)), (1, .int (nI ((3 * (0 + a3)) + a2))), (0, .ref (E.2.2.2 161))]) S.1 S.2.1 dX9_goes_18 hl (k := 1) rfl (by decide) (by decide) rfl (fun ls hl => ?_)
  refine lv_goto (tgt := 4) S.1 S.2.1 dX9_goes_21 (by decide) ?_
  refine lv_iload_n S.1 S.2.1 dX9_goes_4 rfl (lv_at hl 0 rfl) ?_
  refine lv_if_lt (tgt := 24) S.1 S.2.1 dX9_goes_5 (by decide) (fun h => absurd h (by decide)) (fun _ => ?_)
  refine lv_iconst (v := (3 : Int32)) S.1 S.2.1 dX9_goes_8 (by decide) ?_
  refine lv_iload_n S.1 S.2.1 dX9_goes_9 rfl (lv_at hl 1 rfl) ?_
  refine s_imul (v := (nI (3 * ((3 * (0 + a3)) + a2)))) S dX9_goes_10 (pk_mul 3 ((3 * (0 + a3)) + a2)) ?_
  refine lv_aload_n S.1 S.2.1 dX9_goes_11 rfl (lv_at hl 2 rfl) ?_
  refine lv_iload_n S.1 S.2.1 dX9_goes_12 rfl (lv_at hl 0 rfl) ?_
  refine s_callV (C := RX9) (As := [.int (1 : Int32)]) (rest := [.int (nI (3 * ((3 * (0 + a3)) + a2)))]) (i := 161) (kd := 9) S hX G (k_X9_wish_1 l E d e_d) (cwV (bytes := cX9_wish) (maxL := 4) (ret := (some .int)) 1 S.2.2.2.2 gX9_goes_X9_wish rfl rfl rfl (by decide +kernel) ⟨Nat.le_of_ble_eq_true rfl, Nat.le_of_ble_eq_true rfl⟩) (rfl : sh 161 = 9) rfl rfl rfl (by decide) rfl hl.1 rfl (Nat.le_of_ble_eq_true rfl) ⟨Nat.zero_le _, Nat.zero_le _⟩ dX9_goes_13 (fun v I1 L1 H locs hR G => ?_)
  obtain ⟨hv, hI, hL⟩ := hR
  subst hv
  have G : GS E I L sg H locs := G.same hI hL
  refine W.eq (g2 := F0 mg 16 ls [.int (wshF d 1 16 40), .int (nI (3 * ((3 * (0 + a3)) + a2)))]) rfl ?_
  refine s_conv (y := (nI a1)) ew1 ?_
  refine s_iadd (v := (nI ((3 * ((3 * (0 + a3)) + a2)) + a1))) S dX9_goes_16 (nI_add (3 * ((3 * (0 + a3)) + a2)) a1) ?_
  refine lv_istore_n (lv' := [(1, .int (nI ((3 * ((3 * (0 + a3)) + a2)) + a1))), (2, .int (1 : Int32)), (0, .ref (E.2.2.2 161))]) S.1 S.2.1 dX9_goes_17 rfl hl (by decide) rfl (fun ls hl => ?_)
  refine lv_iinc (v := (0 : Int32)) (lv' := [(2, .int (0 : Int32)), (1, .int (nI ((3 * ((3 * (0 + a3)) + a2)) + a1))), (0, .ref (E.2.2.2 161))]) S.1 S.2.1 dX9_goes_18 hl (k := 1) rfl (by decide) (by decide) rfl (fun ls hl => ?_)
  refine lv_goto (tgt := 4) S.1 S.2.1 dX9_goes_21 (by decide) ?_
  refine lv_iload_n S.1 S.2.1 dX9_goes_4 rfl (lv_at hl 0 rfl) ?_
  refine lv_if_lt (tgt := 24) S.1 S.2.1 dX9_goes_5 (by decide) (fun h => absurd h (by decide)) (fun _ => ?_)
  refine lv_iconst (v := (3 : Int32)) S.1 S.2.1 dX9_goes_8 (by decide) ?_
  refine lv_iload_n S.1 S.2.1 dX9_goes_9 rfl (lv_at hl 1 rfl) ?_
  refine s_imul (v := (nI (3 * ((3 * ((3 * (0 + a3)) + a2)) + a1)))) S dX9_goes_10 (pk_mul 3 ((3 * ((3 * (0 + a3)) + a2)) + a1)) ?_
  refine lv_aload_n S.1 S.2.1 dX9_goes_11 rfl (lv_at hl 2 rfl) ?_
  refine lv_iload_n S.1 S.2.1 dX9_goes_12 rfl (lv_at hl 0 rfl) ?_
  refine s_callV (C := RX9) (As := [.int (0 : Int32)]) (rest := [.int (nI (3 * ((3 * ((3 * (0 + a3)) + a2)) + a1)))]) (i := 161) (kd := 9) S hX G (k_X9_wish_0 l E d e_d) (cwV (bytes := cX9_wish) (maxL := 4) (ret := (some .int)) 1 S.2.2.2.2 gX9_goes_X9_wish rfl rfl rfl (by decide +kernel) ⟨Nat.le_of_ble_eq_true rfl, Nat.le_of_ble_eq_true rfl⟩) (rfl : sh 161 = 9) rfl rfl rfl (by decide) rfl hl.1 rfl (Nat.le_of_ble_eq_true rfl) ⟨Nat.zero_le _, Nat.zero_le _⟩ dX9_goes_13 (fun v I1 L1 H locs hR G => ?_)
  obtain ⟨hv, hI, hL⟩ := hR
  subst hv
  have G : GS E I L sg H locs := G.same hI hL
  refine W.eq (g2 := F0 mg 16 ls [.int (wshF d 0 8 40), .int (nI (3 * ((3 * ((3 * (0 + a3)) + a2)) + a1)))]) rfl ?_
  refine s_conv (y := (nI a0)) ew0 ?_
  refine s_iadd (v := (nI ((3 * ((3 * ((3 * (0 + a3)) + a2)) + a1)) + a0))) S dX9_goes_16 (nI_add (3 * ((3 * ((3 * (0 + a3)) + a2)) + a1)) a0) ?_
  refine lv_istore_n (lv' := [(1, .int (nI ((3 * ((3 * ((3 * (0 + a3)) + a2)) + a1)) + a0))), (2, .int (0 : Int32)), (0, .ref (E.2.2.2 161))]) S.1 S.2.1 dX9_goes_17 rfl hl (by decide) rfl (fun ls hl => ?_)
  refine lv_iinc (v := (-1 : Int32)) (lv' := [(2, .int (-1 : Int32)), (1, .int (nI ((3 * ((3 * ((3 * (0 + a3)) + a2)) + a1)) + a0))), (0, .ref (E.2.2.2 161))]) S.1 S.2.1 dX9_goes_18 hl (k := 1) rfl (by decide) (by decide) rfl (fun ls hl => ?_)
  refine lv_goto (tgt := 4) S.1 S.2.1 dX9_goes_21 (by decide) ?_
  refine lv_iload_n S.1 S.2.1 dX9_goes_4 rfl (lv_at hl 0 rfl) ?_
  refine lv_if_lt (tgt := 24) S.1 S.2.1 dX9_goes_5 (by decide) (fun _ => ?_) (fun h => absurd (by decide) h)
  refine lv_iconst (v := (0 : Int32)) S.1 S.2.1 dX9_goes_24 (by decide) ?_
  refine lv_istore_n (lv' := [(2, .int (0 : Int32)), (1, .int (nI ((3 * ((3 * ((3 * (0 + a3)) + a2)) + a1)) + a0))), (0, .ref (E.2.2.2 161))]) S.1 S.2.1 dX9_goes_25 rfl hl (by decide) rfl (fun ls hl => ?_)
  refine lv_iload_n S.1 S.2.1 dX9_goes_26 rfl (lv_at hl 0 rfl) ?_
  refine lv_iconst (v := (2 : Int32)) S.1 S.2.1 dX9_goes_27 (by decide) ?_
  refine lv_icmp_ge (tgt := 59) S.1 S.2.1 dX9_goes_28 (by decide) (fun h => absurd h (by decide)) (fun _ => ?_)
  refine lv_aload_n S.1 S.2.1 dX9_goes_31 rfl (lv_at hl 2 rfl) ?_
  refine s_get S hX G (i := 161) (kd := 9) (a := (I 161)) (v := .ref (E.2.2.2 162)) (C := RX9) (T := TX9) (N := 13) 0 (rfl : sh 161 = 9) rfl rfl rfl (by decide) rfl (fun _ h => (List.mem_cons_of_mem _ (List.mem_append_right _ h))) (by decide) (List.mem_of_getElem? (i := 1) rfl) (fun _ h => h) dX9_goes_32 ?_
  refine lv_bipush (v := (101 : Int32)) S.1 S.2.1 dX9_goes_35 (by decide) ?_
  refine lv_dup2_11 S.1 S.2.1 dX9_goes_37 rfl rfl ?_
  refine s_iald S hX G (i := 162) (kd := 284) (n := 270) (a := d) (x := (d 101)) (rfl : sh 162 = 284) e_d rfl (by decide) (by unfold vp_in; decide) (congrArg d (by decide)) dX9_goes_38 ?_
  refine lv_aload_n S.1 S.2.1 dX9_goes_39 rfl (lv_at hl 2 rfl) ?_
  refine s_get S hX G (i := 161) (kd := 9) (a := (I 161)) (v := .ref (E.2.2.2 162)) (C := RX9) (T := TX9) (N := 13) 0 (rfl : sh 161 = 9) rfl rfl rfl (by decide) rfl (fun _ h => (List.mem_cons_of_mem _ (List.mem_append_right _ h))) (by decide) (List.mem_of_getElem? (i := 1) rfl) (fun _ h => h) dX9_goes_40 ?_
  refine lv_iload_n S.1 S.2.1 dX9_goes_43 rfl (lv_at hl 0 rfl) ?_
  refine s_callS (As := [.int (0 : Int32)]) (rest := [.ref (E.2.2.2 162), .int (d 101), .int (101 : Int32), .ref (E.2.2.2 162)]) S hX G (k_X9_loadAt_0 l E) (va_cwS (bytes := cX9_loadAt) (maxL := 1) (ret := (some .int)) 1 S.2.2.2.2 gX9_goes_X9_loadAt rfl rfl rfl (by decide +kernel) ⟨Nat.le_of_ble_eq_true rfl, Nat.le_of_ble_eq_true rfl⟩) rfl hl.1 rfl (Nat.le_of_ble_eq_true rfl) ⟨Nat.zero_le _, Nat.zero_le _⟩ dX9_goes_44 (fun v I1 L1 H locs hR G => ?_)
  obtain ⟨hv, hI, hL⟩ := hR
  subst hv
  have G : GS E I L sg H locs := G.same hI hL
  refine W.eq (g2 := F0 mg 47 ls [.int (40 : Int32), .ref (E.2.2.2 162), .int (d 101), .int (101 : Int32), .ref (E.2.2.2 162)]) rfl ?_
  refine lv_bipush (v := (7 : Int32)) S.1 S.2.1 dX9_goes_47 (by decide) ?_
  refine s_iadd (v := (47 : Int32)) S dX9_goes_49 (by decide) ?_
  refine s_iald S hX G (i := 162) (kd := 284) (n := 270) (a := d) (x := (d 47)) (rfl : sh 162 = 284) e_d rfl (by decide) (by unfold vp_in; decide) (congrArg d (by decide)) dX9_goes_50 ?_
  refine s_iadd (v := ((d 101) + (d 47))) S dX9_goes_51 rfl ?_
  refine s_iast S hX G (i := 162) (kd := 284) (n := 270) (jn := 101) (a := d) (I' := (up I 162 (upd d 101 ((d 101) + (d 47))))) (rfl : sh 162 = 284) e_d (fun _ => rfl) (by decide) (by unfold vp_in; decide) (by decide) rfl dX9_goes_52 (fun H locs G => ?_)
  refine lv_iinc (v := (1 : Int32)) (lv' := [(2, .int (1 : Int32)), (1, .int (nI ((3 * ((3 * ((3 * (0 + a3)) + a2)) + a1)) + a0))), (0, .ref (E.2.2.2 161))]) S.1 S.2.1 dX9_goes_53 hl (k := 0) rfl (by decide) (by decide) rfl (fun ls hl => ?_)
  refine lv_goto (tgt := 26) S.1 S.2.1 dX9_goes_56 (by decide) ?_
  refine lv_iload_n S.1 S.2.1 dX9_goes_26 rfl (lv_at hl 0 rfl) ?_
  refine lv_iconst (v := (2 : Int32)) S.1 S.2.1 dX9_goes_27 (by decide) ?_
  refine lv_icmp_ge (tgt := 59) S.1 S.2.1 dX9_goes_28 (by decide) (fun h => absurd h (by decide)) (fun _ => ?_)
  refine lv_aload_n S.1 S.2.1 dX9_goes_31 rfl (lv_at hl 2 rfl) ?_
  refine s_get S hX G (i := 161) (kd := 9) (a := (I 161)) (v := .ref (E.2.2.2 162)) (C := RX9) (T := TX9) (N := 13) 0 (rfl : sh 161 = 9) (up_ne (by decide)) rfl rfl (by decide) rfl (fun _ h => (List.mem_cons_of_mem _ (List.mem_append_right _ h))) (by decide) (List.mem_of_getElem? (i := 1) rfl) (fun _ h => h) dX9_goes_32 ?_
  refine lv_bipush (v := (101 : Int32)) S.1 S.2.1 dX9_goes_35 (by decide) ?_
  refine lv_dup2_11 S.1 S.2.1 dX9_goes_37 rfl rfl ?_
  refine s_iald S hX G (i := 162) (kd := 284) (n := 270) (a := (upd d 101 ((d 101) + (d 47)))) (x := ((d 101) + (d 47))) (rfl : sh 162 = 284) up_eq rfl (by decide) (by unfold vp_in; decide) (show (upd d 101 ((d 101) + (d 47))) (Int32.toNatClampNeg (101 : Int32)) = ((d 101) + (d 47)) from congrArg (upd d 101 ((d 101) + (d 47))) (show Int32.toNatClampNeg (101 : Int32) = 101 from (by decide))) dX9_goes_38 ?_
  refine lv_aload_n S.1 S.2.1 dX9_goes_39 rfl (lv_at hl 2 rfl) ?_
  refine s_get S hX G (i := 161) (kd := 9) (a := (I 161)) (v := .ref (E.2.2.2 162)) (C := RX9) (T := TX9) (N := 13) 0 (rfl : sh 161 = 9) (up_ne (by decide)) rfl rfl (by decide) rfl (fun _ h => (List.mem_cons_of_mem _ (List.mem_append_right _ h))) (by decide) (List.mem_of_getElem? (i := 1) rfl) (fun _ h => h) dX9_goes_40 ?_
  refine lv_iload_n S.1 S.2.1 dX9_goes_43 rfl (lv_at hl 0 rfl) ?_
  refine s_callS (As := [.int (1 : Int32)]) (rest := [.ref (E.2.2.2 162), .int ((d 101) + (d 47)), .int (101 : Int32), .ref (E.2.2.2 162)]) S hX G (k_X9_loadAt_1 l E) (va_cwS (bytes := cX9_loadAt) (maxL := 1) (ret := (some .int)) 1 S.2.2.2.2 gX9_goes_X9_loadAt rfl rfl rfl (by decide +kernel) ⟨Nat.le_of_ble_eq_true rfl, Nat.le_of_ble_eq_true rfl⟩) rfl hl.1 rfl (Nat.le_of_ble_eq_true rfl) ⟨Nat.zero_le _, Nat.zero_le _⟩ dX9_goes_44 (fun v I1 L1 H locs hR G => ?_)
  obtain ⟨hv, hI, hL⟩ := hR
  subst hv
  have G : GS E (up I 162 (upd d 101 ((d 101) + (d 47)))) L sg H locs := G.same hI hL
  refine W.eq (g2 := F0 mg 47 ls [.int (70 : Int32), .ref (E.2.2.2 162), .int ((d 101) + (d 47)), .int (101 : Int32), .ref (E.2.2.2 162)]) rfl ?_
  refine lv_bipush (v := (7 : Int32)) S.1 S.2.1 dX9_goes_47 (by decide) ?_
  refine s_iadd (v := (77 : Int32)) S dX9_goes_49 (by decide) ?_
  refine s_iald S hX G (i := 162) (kd := 284) (n := 270) (a := (upd d 101 ((d 101) + (d 47)))) (x := (d 77)) (rfl : sh 162 = 284) up_eq rfl (by decide) (by unfold vp_in; decide) (show (upd d 101 ((d 101) + (d 47))) (Int32.toNatClampNeg (77 : Int32)) = (d 77) from congrArg (upd d 101 ((d 101) + (d 47))) (show Int32.toNatClampNeg (77 : Int32) = 77 from (by decide))) dX9_goes_50 ?_
  refine s_iadd (v := (((d 101) + (d 47)) + (d 77))) S dX9_goes_51 rfl ?_
  refine s_iast S hX G (i := 162) (kd := 284) (n := 270) (jn := 101) (a := (upd d 101 ((d 101) + (d 47)))) (I' := (up I 162 (upd (upd d 101 ((d 101) + (d 47))) 101 (((d 101) + (d 47)) + (d 77))))) (rfl : sh 162 = 284) up_eq (fun _ => rfl) (by decide) (by unfold vp_in; decide) (by decide) (by rw [up_up]) dX9_goes_52 (fun H locs G => ?_)
  refine lv_iinc (v := (2 : Int32)) (lv' := [(2, .int (2 : Int32)), (1, .int (nI ((3 * ((3 * ((3 * (0 + a3)) + a2)) + a1)) + a0))), (0, .ref (E.2.2.2 161))]) S.1 S.2.1 dX9_goes_53 hl (k := 0) rfl (by decide) (by decide) rfl (fun ls hl => ?_)
  refine lv_goto (tgt := 26) S.1 S.2.1 dX9_goes_56 (by decide) ?_
  refine lv_iload_n S.1 S.2.1 dX9_goes_26 rfl (lv_at hl 0 rfl) ?_
  refine lv_iconst (v := (2 : Int32)) S.1 S.2.1 dX9_goes_27 (by decide) ?_
  refine lv_icmp_ge (tgt := 59) S.1 S.2.1 dX9_goes_28 (by decide) (fun _ => ?_) (fun h => absurd (by decide) h)
  refine lv_iconst (v := (0 : Int32)) S.1 S.2.1 dX9_goes_59 (by decide) ?_
  refine lv_istore_n (lv' := [(2, .int (0 : Int32)), (1, .int (nI ((3 * ((3 * ((3 * (0 + a3)) + a2)) + a1)) + a0))), (0, .ref (E.2.2.2 161))]) S.1 S.2.1 dX9_goes_60 rfl hl (by decide) rfl (fun ls hl => ?_)
  refine lv_iload_n S.1 S.2.1 dX9_goes_61 rfl (lv_at hl 0 rfl) ?_
  refine lv_iconst (v := (4 : Int32)) S.1 S.2.1 dX9_goes_62 (by decide) ?_
  refine lv_icmp_ge (tgt := 84) S.1 S.2.1 dX9_goes_63 (by decide) (fun h => absurd h (by decide)) (fun _ => ?_)
  refine lv_aload_n S.1 S.2.1 dX9_goes_66 rfl (lv_at hl 2 rfl) ?_
  refine lv_iload_n S.1 S.2.1 dX9_goes_67 rfl (lv_at hl 0 rfl) ?_
  refine lv_iload_n S.1 S.2.1 dX9_goes_68 rfl (lv_at hl 1 rfl) ?_
  refine lv_iconst (v := (3 : Int32)) S.1 S.2.1 dX9_goes_69 (by decide) ?_
  refine s_irem (v := (nI a0)) S dX9_goes_70 (by decide) ((pk_rem (d := 3) (by omega) (by decide) (by decide)).trans (congrArg nI (by omega))) ?_
  refine s_callV (C := RX9) (As := [.int (0 : Int32), .int (nI a0)]) (rest := []) (i := 161) (kd := 9) S hX G (k_X9_turnsLeg_0 l E (nI a0) (upd (upd d 101 ((d 101) + (d 47))) 101 (((d 101) + (d 47)) + (d 77))) up_eq (in3 ha0)) (cwV (bytes := cX9_turnsLeg) (maxL := 7) (ret := none) 2 S.2.2.2.2 gX9_goes_X9_turnsLeg rfl rfl rfl (by decide +kernel) ⟨Nat.le_of_ble_eq_true rfl, Nat.le_of_ble_eq_true rfl⟩) (rfl : sh 161 = 9) rfl rfl rfl (by decide) rfl hl.1 rfl (Nat.le_of_ble_eq_true rfl) ⟨Nat.zero_le _, Nat.zero_le _⟩ dX9_goes_71 (fun v I1 L1 H locs hR G => ?_)
  obtain ⟨hv, hI, hL⟩ := hR
  subst hv
  have hI : I1 = (up (up I 162 (upd (upd d 101 ((d 101) + (d 47))) 101 (((d 101) + (d 47)) + (d 77)))) 162 (tg1 d (nI a0))) := hI
  have G : GS E (up I 162 (tg1 d (nI a0))) L sg H locs := G.same (hI.trans (by rw [up_up])) hL
  refine W.eq (g2 := F0 mg 74 ls []) rfl ?_
  refine lv_iload_n S.1 S.2.1 dX9_goes_74 rfl (lv_at hl 1 rfl) ?_
  refine lv_iconst (v := (3 : Int32)) S.1 S.2.1 dX9_goes_75 (by decide) ?_
  refine s_idiv (v := (nI (3 * (3 * (0 + a3) + a2) + a1))) S dX9_goes_76 (by decide) ((pk_div (d := 3) (by omega) (by decide) (by decide)).trans (congrArg nI (by omega))) ?_
  refine lv_istore_n (lv' := [(1, .int (nI (3 * (3 * (0 + a3) + a2) + a1))), (2, .int (0 : Int32)), (0, .ref (E.2.2.2 161))]) S.1 S.2.1 dX9_goes_77 rfl hl (by decide) rfl (fun ls hl => ?_)
  refine lv_iinc (v := (1 : Int32)) (lv' := [(2, .int (1 : Int32)), (1, .int (nI (3 * (3 * (0 + a3) + a2) + a1))), (0, .ref (E.2.2.2 161))]) S.1 S.2.1 dX9_goes_78 hl (k := 1) rfl (by decide) (by decide) rfl (fun ls hl => ?_)
  refine lv_goto (tgt := 61) S.1 S.2.1 dX9_goes_81 (by decide) ?_
  refine lv_iload_n S.1 S.2.1 dX9_goes_61 rfl (lv_at hl 0 rfl) ?_
  refine lv_iconst (v := (4 : Int32)) S.1 S.2.1 dX9_goes_62 (by decide) ?_
  refine lv_icmp_ge (tgt := 84) S.1 S.2.1 dX9_goes_63 (by decide) (fun h => absurd h (by decide)) (fun _ => ?_)
  refine lv_aload_n S.1 S.2.1 dX9_goes_66 rfl (lv_at hl 2 rfl) ?_
  refine lv_iload_n S.1 S.2.1 dX9_goes_67 rfl (lv_at hl 0 rfl) ?_
  refine lv_iload_n S.1 S.2.1 dX9_goes_68 rfl (lv_at hl 1 rfl) ?_
  refine lv_iconst (v := (3 : Int32)) S.1 S.2.1 dX9_goes_69 (by decide) ?_
  refine s_irem (v := (nI a1)) S dX9_goes_70 (by decide) ((pk_rem (d := 3) (by omega) (by decide) (by decide)).trans (congrArg nI (by omega))) ?_
  refine s_callV (C := RX9) (As := [.int (1 : Int32), .int (nI a1)]) (rest := []) (i := 161) (kd := 9) S hX G (k_X9_turnsLeg_1 l E (nI a1) (tg1 d (nI a0)) up_eq (in3 ha1)) (cwV (bytes := cX9_turnsLeg) (maxL := 7) (ret := none) 2 S.2.2.2.2 gX9_goes_X9_turnsLeg rfl rfl rfl (by decide +kernel) ⟨Nat.le_of_ble_eq_true rfl, Nat.le_of_ble_eq_true rfl⟩) (rfl : sh 161 = 9) rfl rfl rfl (by decide) rfl hl.1 rfl (Nat.le_of_ble_eq_true rfl) ⟨Nat.zero_le _, Nat.zero_le _⟩ dX9_goes_71 (fun v I1 L1 H locs hR G => ?_)
  obtain ⟨hv, hI, hL⟩ := hR
  subst hv
  have hI : I1 = (up (up I 162 (tg1 d (nI a0))) 162 (tg2 d (nI a0) (nI a1))) := hI
  have G : GS E (up I 162 (tg2 d (nI a0) (nI a1))) L sg H locs := G.same (hI.trans (by rw [up_up])) hL
  refine W.eq (g2 := F0 mg 74 ls []) rfl ?_
  refine lv_iload_n S.1 S.2.1 dX9_goes_74 rfl (lv_at hl 1 rfl) ?_
  refine lv_iconst (v := (3 : Int32)) S.1 S.2.1 dX9_goes_75 (by decide) ?_
  refine s_idiv (v := (nI (3 * (0 + a3) + a2))) S dX9_goes_76 (by decide) ((pk_div (d := 3) (by omega) (by decide) (by decide)).trans (congrArg nI (by omega))) ?_
  refine lv_istore_n (lv' := [(1, .int (nI (3 * (0 + a3) + a2))), (2, .int (1 : Int32)), (0, .ref (E.2.2.2 161))]) S.1 S.2.1 dX9_goes_77 rfl hl (by decide) rfl (fun ls hl => ?_)
  refine lv_iinc (v := (2 : Int32)) (lv' := [(2, .int (2 : Int32)), (1, .int (nI (3 * (0 + a3) + a2))), (0, .ref (E.2.2.2 161))]) S.1 S.2.1 dX9_goes_78 hl (k := 1) rfl (by decide) (by decide) rfl (fun ls hl => ?_)
  refine lv_goto (tgt := 61) S.1 S.2.1 dX9_goes_81 (by decide) ?_
  refine lv_iload_n S.1 S.2.1 dX9_goes_61 rfl (lv_at hl 0 rfl) ?_
  refine lv_iconst (v := (4 : Int32)) S.1 S.2.1 dX9_goes_62 (by decide) ?_
  refine lv_icmp_ge (tgt := 84) S.1 S.2.1 dX9_goes_63 (by decide) (fun h => absurd h (by decide)) (fun _ => ?_)
  refine lv_aload_n S.1 S.2.1 dX9_goes_66 rfl (lv_at hl 2 rfl) ?_
  refine lv_iload_n S.1 S.2.1 dX9_goes_67 rfl (lv_at hl 0 rfl) ?_
  refine lv_iload_n S.1 S.2.1 dX9_goes_68 rfl (lv_at hl 1 rfl) ?_
  refine lv_iconst (v := (3 : Int32)) S.1 S.2.1 dX9_goes_69 (by decide) ?_
  refine s_irem (v := (nI a2)) S dX9_goes_70 (by decide) ((pk_rem (d := 3) (by omega) (by decide) (by decide)).trans (congrArg nI (by omega))) ?_
  refine s_callV (C := RX9) (As := [.int (2 : Int32), .int (nI a2)]) (rest := []) (i := 161) (kd := 9) S hX G (k_X9_turnsLeg_2 l E (nI a2) (tg2 d (nI a0) (nI a1)) up_eq (in3 ha2)) (cwV (bytes := cX9_turnsLeg) (maxL := 7) (ret := none) 2 S.2.2.2.2 gX9_goes_X9_turnsLeg rfl rfl rfl (by decide +kernel) ⟨Nat.le_of_ble_eq_true rfl, Nat.le_of_ble_eq_true rfl⟩) (rfl : sh 161 = 9) rfl rfl rfl (by decide) rfl hl.1 rfl (Nat.le_of_ble_eq_true rfl) ⟨Nat.zero_le _, Nat.zero_le _⟩ dX9_goes_71 (fun v I1 L1 H locs hR G => ?_)
  obtain ⟨hv, hI, hL⟩ := hR
  subst hv
  have hI : I1 = (up (up I 162 (tg2 d (nI a0) (nI a1))) 162 (tg3 d (nI a0) (nI a1) (nI a2))) := hI
  have G : GS E (up I 162 (tg3 d (nI a0) (nI a1) (nI a2))) L sg H locs := G.same (hI.trans (by rw [up_up])) hL
  refine W.eq (g2 := F0 mg 74 ls []) rfl ?_
  refine lv_iload_n S.1 S.2.1 dX9_goes_74 rfl (lv_at hl 1 rfl) ?_
  refine lv_iconst (v := (3 : Int32)) S.1 S.2.1 dX9_goes_75 (by decide) ?_
  refine s_idiv (v := (nI (0 + a3))) S dX9_goes_76 (by decide) ((pk_div (d := 3) (by omega) (by decide) (by decide)).trans (congrArg nI (by omega))) ?_
  refine lv_istore_n (lv' := [(1, .int (nI (0 + a3))), (2, .int (2 : Int32)), (0, .ref (E.2.2.2 161))]) S.1 S.2.1 dX9_goes_77 rfl hl (by decide) rfl (fun ls hl => ?_)
  refine lv_iinc (v := (3 : Int32)) (lv' := [(2, .int (3 : Int32)), (1, .int (nI (0 + a3))), (0, .ref (E.2.2.2 161))]) S.1 S.2.1 dX9_goes_78 hl (k := 1) rfl (by decide) (by decide) rfl (fun ls hl => ?_)
  refine lv_goto (tgt := 61) S.1 S.2.1 dX9_goes_81 (by decide) ?_
  refine lv_iload_n S.1 S.2.1 dX9_goes_61 rfl (lv_at hl 0 rfl) ?_
  refine lv_iconst (v := (4 : Int32)) S.1 S.2.1 dX9_goes_62 (by decide) ?_
  refine lv_icmp_ge (tgt := 84) S.1 S.2.1 dX9_goes_63 (by decide) (fun h => absurd h (by decide)) (fun _ => ?_)
  refine lv_aload_n S.1 S.2.1 dX9_goes_66 rfl (lv_at hl 2 rfl) ?_
  refine lv_iload_n S.1 S.2.1 dX9_goes_67 rfl (lv_at hl 0 rfl) ?_
  refine lv_iload_n S.1 S.2.1 dX9_goes_68 rfl (lv_at hl 1 rfl) ?_
  refine lv_iconst (v := (3 : Int32)) S.1 S.2.1 dX9_goes_69 (by decide) ?_
  refine s_irem (v := (nI a3)) S dX9_goes_70 (by decide) ((pk_rem (d := 3) (by omega) (by decide) (by decide)).trans (congrArg nI (by omega))) ?_
  refine s_callV (C := RX9) (As := [.int (3 : Int32), .int (nI a3)]) (rest := []) (i := 161) (kd := 9) S hX G (k_X9_turnsLeg_3 l E (nI a3) (tg3 d (nI a0) (nI a1) (nI a2)) up_eq (in3 ha3)) (cwV (bytes := cX9_turnsLeg) (maxL := 7) (ret := none) 2 S.2.2.2.2 gX9_goes_X9_turnsLeg rfl rfl rfl (by decide +kernel) ⟨Nat.le_of_ble_eq_true rfl, Nat.le_of_ble_eq_true rfl⟩) (rfl : sh 161 = 9) rfl rfl rfl (by decide) rfl hl.1 rfl (Nat.le_of_ble_eq_true rfl) ⟨Nat.zero_le _, Nat.zero_le _⟩ dX9_goes_71 (fun v I1 L1 H locs hR G => ?_)
  obtain ⟨hv, hI, hL⟩ := hR
  subst hv
  have hI : I1 = (up (up I 162 (tg3 d (nI a0) (nI a1) (nI a2))) 162 (tg4 d (nI a0) (nI a1) (nI a2) (nI a3))) := hI
  have G : GS E (up I 162 (tg4 d (nI a0) (nI a1) (nI a2) (nI a3))) L sg H locs := G.same (hI.trans (by rw [up_up])) hL
  refine W.eq (g2 := F0 mg 74 ls []) rfl ?_
  refine lv_iload_n S.1 S.2.1 dX9_goes_74 rfl (lv_at hl 1 rfl) ?_
  refine lv_iconst (v := (3 : Int32)) S.1 S.2.1 dX9_goes_75 (by decide) ?_
  refine s_idiv (v := (nI (0))) S dX9_goes_76 (by decide) ((pk_div (d := 3) (by omega) (by decide) (by decide)).trans (congrArg nI (by omega))) ?_
  refine lv_istore_n (lv' := [(1, .int (nI (0))), (2, .int (3 : Int32)), (0, .ref (E.2.2.2 161))]) S.1 S.2.1 dX9_goes_77 rfl hl (by decide) rfl (fun ls hl => ?_)
  refine lv_iinc (v := (4 : Int32)) (lv' := [(2, .int (4 : Int32)), (1, .int (nI (0))), (0, .ref (E.2.2.2 161))]) S.1 S.2.1 dX9_goes_78 hl (k := 1) rfl (by decide) (by decide) rfl (fun ls hl => ?_)
  refine lv_goto (tgt := 61) S.1 S.2.1 dX9_goes_81 (by decide) ?_
  refine lv_iload_n S.1 S.2.1 dX9_goes_61 rfl (lv_at hl 0 rfl) ?_
  refine lv_iconst (v := (4 : Int32)) S.1 S.2.1 dX9_goes_62 (by decide) ?_
  refine lv_icmp_ge (tgt := 84) S.1 S.2.1 dX9_goes_63 (by decide) (fun _ => ?_) (fun h => absurd (by decide) h)
  refine lv_iconst (v := (0 : Int32)) S.1 S.2.1 dX9_goes_84 (by decide) ?_
  refine lv_istore_n (lv' := [(2, .int (0 : Int32)), (1, .int (nI (0))), (0, .ref (E.2.2.2 161))]) S.1 S.2.1 dX9_goes_85 rfl hl (by decide) rfl (fun ls hl => ?_)
  refine lv_iconst (v := (0 : Int32)) S.1 S.2.1 dX9_goes_86 (by decide) ?_
  refine lv_istore_n (lv' := [(3, .int (0 : Int32)), (2, .int (0 : Int32)), (1, .int (nI (0))), (0, .ref (E.2.2.2 161))]) S.1 S.2.1 dX9_goes_87 rfl hl (by decide) rfl (fun ls hl => ?_)
  refine lv_iload_n S.1 S.2.1 dX9_goes_88 rfl (lv_at hl 0 rfl) ?_
  refine lv_iconst (v := (2 : Int32)) S.1 S.2.1 dX9_goes_89 (by decide) ?_
  refine lv_icmp_ge (tgt := 172) S.1 S.2.1 dX9_goes_90 (by decide) (fun h => absurd h (by decide)) (fun _ => ?_)
  refine lv_aload_n S.1 S.2.1 dX9_goes_93 rfl (lv_at hl 3 rfl) ?_
  refine lv_iload_n S.1 S.2.1 dX9_goes_94 rfl (lv_at hl 0 rfl) ?_
  refine s_callV (C := RX9) (As := [.int (0 : Int32)]) (rest := []) (i := 161) (kd := 9) S hX G (k_X9_flows_0 l E (tg4 d (nI a0) (nI a1) (nI a2) (nI a3)) up_eq) (cwV (bytes := cX9_flows) (maxL := 7) (ret := none) 1 S.2.2.2.2 gX9_goes_X9_flows rfl rfl rfl (by decide +kernel) ⟨Nat.le_of_ble_eq_true rfl, Nat.le_of_ble_eq_true rfl⟩) (rfl : sh 161 = 9) rfl rfl rfl (by decide) rfl hl.1 rfl (Nat.le_of_ble_eq_true rfl) ⟨Nat.zero_le _, Nat.zero_le _⟩ dX9_goes_95 (fun v I1 L1 H locs hR G => ?_)
  obtain ⟨hv, hI, hL⟩ := hR
  subst hv
  have hI : I1 = (up (up I 162 (tg4 d (nI a0) (nI a1) (nI a2) (nI a3))) 162 (flF (tg4 d (nI a0) (nI a1) (nI a2) (nI a3)) 8 40)) := hI
  have G : GS E (up I 162 (flF (tg4 d (nI a0) (nI a1) (nI a2) (nI a3)) 8 40)) L sg H locs := G.same (hI.trans (by rw [up_up])) hL
  refine W.eq (g2 := F0 mg 98 ls []) rfl ?_
  refine lv_aload_n S.1 S.2.1 dX9_goes_98 rfl (lv_at hl 3 rfl) ?_
  refine lv_iload_n S.1 S.2.1 dX9_goes_99 rfl (lv_at hl 0 rfl) ?_
  refine s_callV (C := RX9) (As := [.int (0 : Int32)]) (rest := []) (i := 161) (kd := 9) S hX G (k_X9_heats_0 l E (flF (tg4 d (nI a0) (nI a1) (nI a2) (nI a3)) 8 40) up_eq) (cwV (bytes := cX9_heats) (maxL := 6) (ret := none) 1 S.2.2.2.2 gX9_goes_X9_heats rfl rfl rfl (by decide +kernel) ⟨Nat.le_of_ble_eq_true rfl, Nat.le_of_ble_eq_true rfl⟩) (rfl : sh 161 = 9) rfl rfl rfl (by decide) rfl hl.1 rfl (Nat.le_of_ble_eq_true rfl) ⟨Nat.zero_le _, Nat.zero_le _⟩ dX9_goes_100 (fun v I1 L1 H locs hR G => ?_)
  obtain ⟨hv, hI, hL⟩ := hR
  subst hv
  have hI : I1 = (up (up I 162 (flF (tg4 d (nI a0) (nI a1) (nI a2) (nI a3)) 8 40)) 162 (htF (flF (tg4 d (nI a0) (nI a1) (nI a2) (nI a3)) 8 40) 40)) := hI
  have G : GS E (up I 162 (htF (flF (tg4 d (nI a0) (nI a1) (nI a2) (nI a3)) 8 40) 40)) L sg H locs := G.same (hI.trans (by rw [up_up])) hL
  refine W.eq (g2 := F0 mg 103 ls []) rfl ?_
  refine lv_aload_n S.1 S.2.1 dX9_goes_103 rfl (lv_at hl 3 rfl) ?_
  refine lv_iload_n S.1 S.2.1 dX9_goes_104 rfl (lv_at hl 0 rfl) ?_
  refine s_callV (C := RX9) (As := [.int (0 : Int32)]) (rest := []) (i := 161) (kd := 9) S hX G (k_X9_looks_0 l E (htF (flF (tg4 d (nI a0) (nI a1) (nI a2) (nI a3)) 8 40) 40) up_eq) (cwV (bytes := cX9_looks) (maxL := 3) (ret := none) 1 S.2.2.2.2 gX9_goes_X9_looks rfl rfl rfl (by decide +kernel) ⟨Nat.le_of_ble_eq_true rfl, Nat.le_of_ble_eq_true rfl⟩) (rfl : sh 161 = 9) rfl rfl rfl (by decide) rfl hl.1 rfl (Nat.le_of_ble_eq_true rfl) ⟨Nat.zero_le _, Nat.zero_le _⟩ dX9_goes_105 (fun v I1 L1 H locs hR G => ?_)
  obtain ⟨hv, hI, hL⟩ := hR
  subst hv
  have hI : I1 = (up (up I 162 (htF (flF (tg4 d (nI a0) (nI a1) (nI a2) (nI a3)) 8 40) 40)) 162 (lk3 (tg4 d (nI a0) (nI a1) (nI a2) (nI a3)) 8 40)) := hI
  have G : GS E (up I 162 (lk3 (tg4 d (nI a0) (nI a1) (nI a2) (nI a3)) 8 40)) L sg H locs := G.same (hI.trans (by rw [up_up])) hL
  refine W.eq (g2 := F0 mg 108 ls []) rfl ?_
  refine lv_iload_n S.1 S.2.1 dX9_goes_108 rfl (lv_at hl 1 rfl) ?_
  refine lv_aload_n S.1 S.2.1 dX9_goes_109 rfl (lv_at hl 3 rfl) ?_
  refine lv_iload_n S.1 S.2.1 dX9_goes_110 rfl (lv_at hl 0 rfl) ?_
  refine s_callV (C := RX9) (As := [.int (0 : Int32)]) (rest := [.int (0 : Int32)]) (i := 161) (kd := 9) S hX G (k_X9_latches_0 l E (lk3 (tg4 d (nI a0) (nI a1) (nI a2) (nI a3)) 8 40) up_eq) (cwV (bytes := cX9_latches) (maxL := 5) (ret := (some .int)) 1 S.2.2.2.2 gX9_goes_X9_latches rfl rfl rfl (by decide +kernel) ⟨Nat.le_of_ble_eq_true rfl, Nat.le_of_ble_eq_true rfl⟩) (rfl : sh 161 = 9) rfl rfl rfl (by decide) rfl hl.1 rfl (Nat.le_of_ble_eq_true rfl) ⟨Nat.zero_le _, Nat.zero_le _⟩ dX9_goes_111 (fun v I1 L1 H locs hR G => ?_)
  obtain ⟨hv, hI, hL⟩ := hR
  subst hv
  have hI : I1 = (up (up I 162 (lk3 (tg4 d (nI a0) (nI a1) (nI a2) (nI a3)) 8 40)) 162 (gA d (nI a0) (nI a1) (nI a2) (nI a3))) := hI
  have G : GS E (up I 162 (gA d (nI a0) (nI a1) (nI a2) (nI a3))) L sg H locs := G.same (hI.trans (by rw [up_up])) hL
  refine W.eq (g2 := F0 mg 114 ls [.int (latR (lk3 (tg4 d (nI a0) (nI a1) (nI a2) (nI a3)) 8 40) 40), .int (0 : Int32)]) rfl ?_
  refine s_iadd (v := ((0 : Int32) + (latR (lk3 (tg4 d (nI a0) (nI a1) (nI a2) (nI a3)) 8 40) 40))) S dX9_goes_114 rfl ?_
  refine lv_istore_n (lv' := [(2, .int ((0 : Int32) + (latR (lk3 (tg4 d (nI a0) (nI a1) (nI a2) (nI a3)) 8 40) 40))), (3, .int (0 : Int32)), (1, .int (nI (0))), (0, .ref (E.2.2.2 161))]) S.1 S.2.1 dX9_goes_115 rfl hl (by decide) rfl (fun ls hl => ?_)
  refine lv_aload_n S.1 S.2.1 dX9_goes_116 rfl (lv_at hl 3 rfl) ?_
  refine s_get S hX G (i := 161) (kd := 9) (a := (I 161)) (v := .ref (E.2.2.2 162)) (C := RX9) (T := TX9) (N := 13) 0 (rfl : sh 161 = 9) (up_ne (by decide)) rfl rfl (by decide) rfl (fun _ h => (List.mem_cons_of_mem _ (List.mem_append_right _ h))) (by decide) (List.mem_of_getElem? (i := 1) rfl) (fun _ h => h) dX9_goes_117 ?_
  refine lv_iload_n S.1 S.2.1 dX9_goes_120 rfl (lv_at hl 1 rfl) ?_
  refine s_callS (As := [.int (0 : Int32)]) (rest := [.ref (E.2.2.2 162)]) S hX G (k_X9_loadAt_0 l E) (va_cwS (bytes := cX9_loadAt) (maxL := 1) (ret := (some .int)) 1 S.2.2.2.2 gX9_goes_X9_loadAt rfl rfl rfl (by decide +kernel) ⟨Nat.le_of_ble_eq_true rfl, Nat.le_of_ble_eq_true rfl⟩) rfl hl.1 rfl (Nat.le_of_ble_eq_true rfl) ⟨Nat.zero_le _, Nat.zero_le _⟩ dX9_goes_121 (fun v I1 L1 H locs hR G => ?_)
  obtain ⟨hv, hI, hL⟩ := hR
  subst hv
  have G : GS E (up I 162 (gA d (nI a0) (nI a1) (nI a2) (nI a3))) L sg H locs := G.same hI hL
  refine W.eq (g2 := F0 mg 124 ls [.int (40 : Int32), .ref (E.2.2.2 162)]) rfl ?_
  refine lv_bipush (v := (8 : Int32)) S.1 S.2.1 dX9_goes_124 (by decide) ?_
  refine s_iadd (v := (48 : Int32)) S dX9_goes_126 (by decide) ?_
  refine lv_dup2_11 S.1 S.2.1 dX9_goes_127 rfl rfl ?_
  refine s_iald S hX G (i := 162) (kd := 284) (n := 270) (a := (gA d (nI a0) (nI a1) (nI a2) (nI a3))) (x := ((gA d (nI a0) (nI a1) (nI a2) (nI a3)) 48)) (rfl : sh 162 = 284) up_eq rfl (by decide) (by unfold vp_in; decide) (congrArg (gA d (nI a0) (nI a1) (nI a2) (nI a3)) (by decide)) dX9_goes_128 ?_
  refine s_cut (α := Int32) (nL := 4) (E := E) (fun x I' L' => x = (decF ((gA d (nI a0) (nI a1) (nI a2) (nI a3)) 48)) ∧ I' = (up I 162 (gA d (nI a0) (nI a1) (nI a2) (nI a3))) ∧ L' = L) (fun x => [(2, .int ((0 : Int32) + (latR (lk3 (tg4 d (nI a0) (nI a1) (nI a2) (nI a3)) 8 40) 40))), (3, .int (0 : Int32)), (1, .int (nI (0))), (0, .ref (E.2.2.2 161))]) 149 (fun x => [.int x, .int ((gA d (nI a0) (nI a1) (nI a2) (nI a3)) 48), .int (48 : Int32), .ref (E.2.2.2 162)]) (fun kJ_1 => ?_) (fun x I1 L1 H locs ls hP G hl => ?_)
  · refine lv_aload_n S.1 S.2.1 dX9_goes_129 rfl (lv_at hl 3 rfl) ?_
    refine s_get S hX G (i := 161) (kd := 9) (a := (I 161)) (v := .ref (E.2.2.2 162)) (C := RX9) (T := TX9) (N := 13) 0 (rfl : sh 161 = 9) (up_ne (by decide)) rfl rfl (by decide) rfl (fun _ h => (List.mem_cons_of_mem _ (List.mem_append_right _ h))) (by decide) (List.mem_of_getElem? (i := 1) rfl) (fun _ h => h) dX9_goes_130 ?_
    refine lv_iload_n S.1 S.2.1 dX9_goes_133 rfl (lv_at hl 1 rfl) ?_
    refine s_callS (As := [.int (0 : Int32)]) (rest := [.ref (E.2.2.2 162), .int ((gA d (nI a0) (nI a1) (nI a2) (nI a3)) 48), .int (48 : Int32), .ref (E.2.2.2 162)]) S hX G (k_X9_loadAt_0 l E) (va_cwS (bytes := cX9_loadAt) (maxL := 1) (ret := (some .int)) 1 S.2.2.2.2 gX9_goes_X9_loadAt rfl rfl rfl (by decide +kernel) ⟨Nat.le_of_ble_eq_true rfl, Nat.le_of_ble_eq_true rfl⟩) rfl hl.1 rfl (Nat.le_of_ble_eq_true rfl) ⟨Nat.zero_le _, Nat.zero_le _⟩ dX9_goes_134 (fun v I1 L1 H locs hR G => ?_)
    obtain ⟨hv, hI, hL⟩ := hR
    subst hv
    have G : GS E (up I 162 (gA d (nI a0) (nI a1) (nI a2) (nI a3))) L sg H locs := G.same hI hL
    refine W.eq (g2 := F0 mg 137 ls [.int (40 : Int32), .ref (E.2.2.2 162), .int ((gA d (nI a0) (nI a1) (nI a2) (nI a3)) 48), .int (48 : Int32), .ref (E.2.2.2 162)]) rfl ?_
    refine lv_bipush (v := (8 : Int32)) S.1 S.2.1 dX9_goes_137 (by decide) ?_
    refine s_iadd (v := (48 : Int32)) S dX9_goes_139 (by decide) ?_
    refine s_iald S hX G (i := 162) (kd := 284) (n := 270) (a := (gA d (nI a0) (nI a1) (nI a2) (nI a3))) (x := ((gA d (nI a0) (nI a1) (nI a2) (nI a3)) 48)) (rfl : sh 162 = 284) up_eq rfl (by decide) (by unfold vp_in; decide) (congrArg (gA d (nI a0) (nI a1) (nI a2) (nI a3)) (by decide)) dX9_goes_140 ?_
    refine lv_if_le (tgt := 148) S.1 S.2.1 dX9_goes_141 (by decide) (fun c_2 => ?_) (fun c_2 => ?_)
    · refine lv_iconst (v := (0 : Int32)) S.1 S.2.1 dX9_goes_148 (by decide) ?_
      exact kJ_1 (0 : Int32) _ _ _ _ _ ⟨(show (0 : Int32) = (decF ((gA d (nI a0) (nI a1) (nI a2) (nI a3)) 48)) by simp [decF, c_2]), rfl, rfl⟩ G (lv_sub hl [0, 1, 2, 3] rfl)
    · refine lv_iconst (v := (1 : Int32)) S.1 S.2.1 dX9_goes_144 (by decide) ?_
      refine lv_goto (tgt := 149) S.1 S.2.1 dX9_goes_145 (by decide) ?_
      exact kJ_1 (1 : Int32) _ _ _ _ _ ⟨(show (1 : Int32) = (decF ((gA d (nI a0) (nI a1) (nI a2) (nI a3)) 48)) by simp [decF, c_2]), rfl, rfl⟩ G (lv_sub hl [0, 1, 2, 3] rfl)
  · obtain ⟨h0, hI, hL⟩ := hP
    have h0 : x = (decF ((gA d (nI a0) (nI a1) (nI a2) (nI a3)) 48)) := h0
    have hl : lv_has ls 4 [(2, .int ((0 : Int32) + (latR (lk3 (tg4 d (nI a0) (nI a1) (nI a2) (nI a3)) 8 40) 40))), (3, .int (0 : Int32)), (1, .int (nI (0))), (0, .ref (E.2.2.2 161))] := hl
    have h0 := h0.symm
    subst h0
    have G : GS E (up I 162 (gA d (nI a0) (nI a1) (nI a2) (nI a3))) L sg H locs := G.same hI hL
    refine W.eq (g2 := F0 mg 149 ls [.int (decF ((gA d (nI a0) (nI a1) (nI a2) (nI a3)) 48)), .int ((gA d (nI a0) (nI a1) (nI a2) (nI a3)) 48), .int (48 : Int32), .ref (E.2.2.2 162)]) rfl ?_
    refine s_isub (v := (((gA d (nI a0) (nI a1) (nI a2) (nI a3)) 48) - (decF ((gA d (nI a0) (nI a1) (nI a2) (nI a3)) 48)))) S dX9_goes_149 rfl ?_
    refine s_iast S hX G (i := 162) (kd := 284) (n := 270) (jn := 48) (a := (gA d (nI a0) (nI a1) (nI a2) (nI a3))) (I' := (up I 162 (upd (gA d (nI a0) (nI a1) (nI a2) (nI a3)) 48 (((gA d (nI a0) (nI a1) (nI a2) (nI a3)) 48) - (decF ((gA d (nI a0) (nI a1) (nI a2) (nI a3)) 48)))))) (rfl : sh 162 = 284) up_eq (fun _ => rfl) (by decide) (by unfold vp_in; decide) (by decide) (by rw [up_up]) dX9_goes_150 (fun H locs G => ?_)
    refine lv_aload_n S.1 S.2.1 dX9_goes_151 rfl (lv_at hl 3 rfl) ?_
    refine lv_dup S.1 S.2.1 dX9_goes_152 rfl ?_
    refine s_getl S hX G (i := 161) (kd := 9) (b := lx) (v := .long (lx 3)) (C := RX9) (T := TX9) (N := 13) 3 (rfl : sh 161 = 9) e_lx rfl rfl (by decide) rfl (fun _ h => (List.mem_cons_of_mem _ (List.mem_append_right _ h))) (by decide) (List.mem_of_getElem? (i := 2) rfl) (fun _ h => h) dX9_goes_153 ?_
    refine lv_aload_n S.1 S.2.1 dX9_goes_156 rfl (lv_at hl 3 rfl) ?_
    refine lv_iload_n S.1 S.2.1 dX9_goes_157 rfl (lv_at hl 1 rfl) ?_
    refine s_callV (C := RX9) (As := [.int (0 : Int32)]) (rest := [.long (lx 3), .ref (E.2.2.2 161)]) (i := 161) (kd := 9) S hX G (k_X9_sizeOf_0 l E (upd (gA d (nI a0) (nI a1) (nI a2) (nI a3)) 48 (((gA d (nI a0) (nI a1) (nI a2) (nI a3)) 48) - (decF ((gA d (nI a0) (nI a1) (nI a2) (nI a3)) 48)))) up_eq) (cwV (bytes := cX9_sizeOf) (maxL := 3) (ret := (some .int)) 1 S.2.2.2.2 gX9_goes_X9_sizeOf rfl rfl rfl (by decide +kernel) ⟨Nat.le_of_ble_eq_true rfl, Nat.le_of_ble_eq_true rfl⟩) (rfl : sh 161 = 9) rfl rfl rfl (by decide) rfl hl.1 rfl (Nat.le_of_ble_eq_true rfl) ⟨Nat.zero_le _, Nat.zero_le _⟩ dX9_goes_158 (fun v I1 L1 H locs hR G => ?_)
    obtain ⟨hv, hI, hL⟩ := hR
    subst hv
    have G : GS E (up I 162 (upd (gA d (nI a0) (nI a1) (nI a2) (nI a3)) 48 (((gA d (nI a0) (nI a1) (nI a2) (nI a3)) 48) - (decF ((gA d (nI a0) (nI a1) (nI a2) (nI a3)) 48))))) L sg H locs := G.same hI hL
    refine W.eq (g2 := F0 mg 161 ls [.int (absM ((upd (gA d (nI a0) (nI a1) (nI a2) (nI a3)) 48 (((gA d (nI a0) (nI a1) (nI a2) (nI a3)) 48) - (decF ((gA d (nI a0) (nI a1) (nI a2) (nI a3)) 48)))) 44)), .long (lx 3), .ref (E.2.2.2 161)]) rfl ?_
    refine lv_topi (fun y_3 ey_3 => ?_)
    refine lv_i2l (v := (Int32.toInt64 y_3)) S.1 S.2.1 dX9_goes_161 rfl ?_
    refine s_ladd (v := ((lx 3) + (Int32.toInt64 y_3))) S dX9_goes_162 rfl ?_
    refine lv_topl (fun y_4 ey_4 => ?_)
    refine s_putl S hX G (i := 161) (kd := 9) (b := lx) (b' := (vp_updL lx 3 y_4)) (L' := (upL L 161 (vp_updL lx 3 y_4))) (v := .long y_4) (ty := .long) (ty0 := tyX9) (C := RX9) (T := TX9) (N := 13) 3 (rfl : sh 161 = 9) e_lx rfl rfl rfl (by decide) rfl (fun _ h => (List.mem_cons_of_mem _ (List.mem_append_right _ h))) tyX9_ok nmX9 (by decide) (List.mem_of_getElem? (i := 2) rfl) (fun _ h => h) rfl (by decide +kernel) rfl rfl (Nat.le_of_ble_eq_true rfl) dX9_goes_163 (fun H locs G => ?_)
    refine lv_iinc (v := (1 : Int32)) (lv' := [(3, .int (1 : Int32)), (2, .int ((0 : Int32) + (latR (lk3 (tg4 d (nI a0) (nI a1) (nI a2) (nI a3)) 8 40) 40))), (1, .int (nI (0))), (0, .ref (E.2.2.2 161))]) S.1 S.2.1 dX9_goes_166 hl (k := 1) rfl (by decide) (by decide) rfl (fun ls hl => ?_)
    refine lv_goto (tgt := 88) S.1 S.2.1 dX9_goes_169 (by decide) ?_
    refine lv_iload_n S.1 S.2.1 dX9_goes_88 rfl (lv_at hl 0 rfl) ?_
    refine lv_iconst (v := (2 : Int32)) S.1 S.2.1 dX9_goes_89 (by decide) ?_
    refine lv_icmp_ge (tgt := 172) S.1 S.2.1 dX9_goes_90 (by decide) (fun h => absurd h (by decide)) (fun _ => ?_)
    refine lv_aload_n S.1 S.2.1 dX9_goes_93 rfl (lv_at hl 3 rfl) ?_
    refine lv_iload_n S.1 S.2.1 dX9_goes_94 rfl (lv_at hl 0 rfl) ?_
    refine s_callV (C := RX9) (As := [.int (1 : Int32)]) (rest := []) (i := 161) (kd := 9) S hX G (k_X9_flows_1 l E (upd (gA d (nI a0) (nI a1) (nI a2) (nI a3)) 48 (((gA d (nI a0) (nI a1) (nI a2) (nI a3)) 48) - (decF ((gA d (nI a0) (nI a1) (nI a2) (nI a3)) 48)))) up_eq) (cwV (bytes := cX9_flows) (maxL := 7) (ret := none) 1 S.2.2.2.2 gX9_goes_X9_flows rfl rfl rfl (by decide +kernel) ⟨Nat.le_of_ble_eq_true rfl, Nat.le_of_ble_eq_true rfl⟩) (rfl : sh 161 = 9) rfl rfl rfl (by decide) rfl hl.1 rfl (Nat.le_of_ble_eq_true rfl) ⟨Nat.zero_le _, Nat.zero_le _⟩ dX9_goes_95 (fun v I1 L1 H locs hR G => ?_)
    obtain ⟨hv, hI, hL⟩ := hR
    subst hv
    have hI : I1 = (up (up I 162 (upd (gA d (nI a0) (nI a1) (nI a2) (nI a3)) 48 (((gA d (nI a0) (nI a1) (nI a2) (nI a3)) 48) - (decF ((gA d (nI a0) (nI a1) (nI a2) (nI a3)) 48))))) 162 (flF (gB d (nI a0) (nI a1) (nI a2) (nI a3)) 24 70)) := hI
    have G : GS E (up I 162 (flF (gB d (nI a0) (nI a1) (nI a2) (nI a3)) 24 70)) (upL L 161 (vp_updL lx 3 y_4)) sg H locs := G.same (hI.trans (by rw [up_up])) hL
    refine W.eq (g2 := F0 mg 98 ls []) rfl ?_
    refine lv_aload_n S.1 S.2.1 dX9_goes_98 rfl (lv_at hl 3 rfl) ?_
    refine lv_iload_n S.1 S.2.1 dX9_goes_99 rfl (lv_at hl 0 rfl) ?_
    refine s_callV (C := RX9) (As := [.int (1 : Int32)]) (rest := []) (i := 161) (kd := 9) S hX G (k_X9_heats_1 l E (flF (gB d (nI a0) (nI a1) (nI a2) (nI a3)) 24 70) up_eq) (cwV (bytes := cX9_heats) (maxL := 6) (ret := none) 1 S.2.2.2.2 gX9_goes_X9_heats rfl rfl rfl (by decide +kernel) ⟨Nat.le_of_ble_eq_true rfl, Nat.le_of_ble_eq_true rfl⟩) (rfl : sh 161 = 9) rfl rfl rfl (by decide) rfl hl.1 rfl (Nat.le_of_ble_eq_true rfl) ⟨Nat.zero_le _, Nat.zero_le _⟩ dX9_goes_100 (fun v I1 L1 H locs hR G => ?_)
    obtain ⟨hv, hI, hL⟩ := hR
    subst hv
    have hI : I1 = (up (up I 162 (flF (gB d (nI a0) (nI a1) (nI a2) (nI a3)) 24 70)) 162 (htF (flF (gB d (nI a0) (nI a1) (nI a2) (nI a3)) 24 70) 70)) := hI
    have G : GS E (up I 162 (htF (flF (gB d (nI a0) (nI a1) (nI a2) (nI a3)) 24 70) 70)) (upL L 161 (vp_updL lx 3 y_4)) sg H locs := G.same (hI.trans (by rw [up_up])) hL
    refine W.eq (g2 := F0 mg 103 ls []) rfl ?_
    refine lv_aload_n S.1 S.2.1 dX9_goes_103 rfl (lv_at hl 3 rfl) ?_
    refine lv_iload_n S.1 S.2.1 dX9_goes_104 rfl (lv_at hl 0 rfl) ?_
    refine s_callV (C := RX9) (As := [.int (1 : Int32)]) (rest := []) (i := 161) (kd := 9) S hX G (k_X9_looks_1 l E (htF (flF (gB d (nI a0) (nI a1) (nI a2) (nI a3)) 24 70) 70) up_eq) (cwV (bytes := cX9_looks) (maxL := 3) (ret := none) 1 S.2.2.2.2 gX9_goes_X9_looks rfl rfl rfl (by decide +kernel) ⟨Nat.le_of_ble_eq_true rfl, Nat.le_of_ble_eq_true rfl⟩) (rfl : sh 161 = 9) rfl rfl rfl (by decide) rfl hl.1 rfl (Nat.le_of_ble_eq_true rfl) ⟨Nat.zero_le _, Nat.zero_le _⟩ dX9_goes_105 (fun v I1 L1 H locs hR G => ?_)
    obtain ⟨hv, hI, hL⟩ := hR
    subst hv
    have hI : I1 = (up (up I 162 (htF (flF (gB d (nI a0) (nI a1) (nI a2) (nI a3)) 24 70) 70)) 162 (lk3 (gB d (nI a0) (nI a1) (nI a2) (nI a3)) 24 70)) := hI
    have G : GS E (up I 162 (lk3 (gB d (nI a0) (nI a1) (nI a2) (nI a3)) 24 70)) (upL L 161 (vp_updL lx 3 y_4)) sg H locs := G.same (hI.trans (by rw [up_up])) hL
    refine W.eq (g2 := F0 mg 108 ls []) rfl ?_
    refine lv_iload_n S.1 S.2.1 dX9_goes_108 rfl (lv_at hl 1 rfl) ?_
    refine lv_aload_n S.1 S.2.1 dX9_goes_109 rfl (lv_at hl 3 rfl) ?_
    refine lv_iload_n S.1 S.2.1 dX9_goes_110 rfl (lv_at hl 0 rfl) ?_
    refine s_callV (C := RX9) (As := [.int (1 : Int32)]) (rest := [.int ((0 : Int32) + (latR (lk3 (tg4 d (nI a0) (nI a1) (nI a2) (nI a3)) 8 40) 40))]) (i := 161) (kd := 9) S hX G (k_X9_latches_1 l E (lk3 (gB d (nI a0) (nI a1) (nI a2) (nI a3)) 24 70) up_eq) (cwV (bytes := cX9_latches) (maxL := 5) (ret := (some .int)) 1 S.2.2.2.2 gX9_goes_X9_latches rfl rfl rfl (by decide +kernel) ⟨Nat.le_of_ble_eq_true rfl, Nat.le_of_ble_eq_true rfl⟩) (rfl : sh 161 = 9) rfl rfl rfl (by decide) rfl hl.1 rfl (Nat.le_of_ble_eq_true rfl) ⟨Nat.zero_le _, Nat.zero_le _⟩ dX9_goes_111 (fun v I1 L1 H locs hR G => ?_)
    obtain ⟨hv, hI, hL⟩ := hR
    subst hv
    have hI : I1 = (up (up I 162 (lk3 (gB d (nI a0) (nI a1) (nI a2) (nI a3)) 24 70)) 162 (gC d (nI a0) (nI a1) (nI a2) (nI a3))) := hI
    have G : GS E (up I 162 (gC d (nI a0) (nI a1) (nI a2) (nI a3))) (upL L 161 (vp_updL lx 3 y_4)) sg H locs := G.same (hI.trans (by rw [up_up])) hL
    refine W.eq (g2 := F0 mg 114 ls [.int (latR (lk3 (gB d (nI a0) (nI a1) (nI a2) (nI a3)) 24 70) 70), .int ((0 : Int32) + (latR (lk3 (tg4 d (nI a0) (nI a1) (nI a2) (nI a3)) 8 40) 40))]) rfl ?_
    refine s_iadd (v := (((0 : Int32) + (latR (lk3 (tg4 d (nI a0) (nI a1) (nI a2) (nI a3)) 8 40) 40)) + (latR (lk3 (gB d (nI a0) (nI a1) (nI a2) (nI a3)) 24 70) 70))) S dX9_goes_114 rfl ?_
    refine lv_istore_n (lv' := [(2, .int (((0 : Int32) + (latR (lk3 (tg4 d (nI a0) (nI a1) (nI a2) (nI a3)) 8 40) 40)) + (latR (lk3 (gB d (nI a0) (nI a1) (nI a2) (nI a3)) 24 70) 70))), (3, .int (1 : Int32)), (1, .int (nI (0))), (0, .ref (E.2.2.2 161))]) S.1 S.2.1 dX9_goes_115 rfl hl (by decide) rfl (fun ls hl => ?_)
    refine lv_aload_n S.1 S.2.1 dX9_goes_116 rfl (lv_at hl 3 rfl) ?_
    refine s_get S hX G (i := 161) (kd := 9) (a := (I 161)) (v := .ref (E.2.2.2 162)) (C := RX9) (T := TX9) (N := 13) 0 (rfl : sh 161 = 9) (up_ne (by decide)) rfl rfl (by decide) rfl (fun _ h => (List.mem_cons_of_mem _ (List.mem_append_right _ h))) (by decide) (List.mem_of_getElem? (i := 1) rfl) (fun _ h => h) dX9_goes_117 ?_
    refine lv_iload_n S.1 S.2.1 dX9_goes_120 rfl (lv_at hl 1 rfl) ?_
    refine s_callS (As := [.int (1 : Int32)]) (rest := [.ref (E.2.2.2 162)]) S hX G (k_X9_loadAt_1 l E) (va_cwS (bytes := cX9_loadAt) (maxL := 1) (ret := (some .int)) 1 S.2.2.2.2 gX9_goes_X9_loadAt rfl rfl rfl (by decide +kernel) ⟨Nat.le_of_ble_eq_true rfl, Nat.le_of_ble_eq_true rfl⟩) rfl hl.1 rfl (Nat.le_of_ble_eq_true rfl) ⟨Nat.zero_le _, Nat.zero_le _⟩ dX9_goes_121 (fun v I1 L1 H locs hR G => ?_)
    obtain ⟨hv, hI, hL⟩ := hR
    subst hv
    have G : GS E (up I 162 (gC d (nI a0) (nI a1) (nI a2) (nI a3))) (upL L 161 (vp_updL lx 3 y_4)) sg H locs := G.same hI hL
    refine W.eq (g2 := F0 mg 124 ls [.int (70 : Int32), .ref (E.2.2.2 162)]) rfl ?_
    refine lv_bipush (v := (8 : Int32)) S.1 S.2.1 dX9_goes_124 (by decide) ?_
    refine s_iadd (v := (78 : Int32)) S dX9_goes_126 (by decide) ?_
    refine lv_dup2_11 S.1 S.2.1 dX9_goes_127 rfl rfl ?_
    refine s_iald S hX G (i := 162) (kd := 284) (n := 270) (a := (gC d (nI a0) (nI a1) (nI a2) (nI a3))) (x := ((gC d (nI a0) (nI a1) (nI a2) (nI a3)) 78)) (rfl : sh 162 = 284) up_eq rfl (by decide) (by unfold vp_in; decide) (congrArg (gC d (nI a0) (nI a1) (nI a2) (nI a3)) (by decide)) dX9_goes_128 ?_
    refine s_cut (α := Int32) (nL := 4) (E := E) (fun x I' L' => x = (decF ((gC d (nI a0) (nI a1) (nI a2) (nI a3)) 78)) ∧ I' = (up I 162 (gC d (nI a0) (nI a1) (nI a2) (nI a3))) ∧ L' = (upL L 161 (vp_updL lx 3 y_4))) (fun x => [(2, .int (((0 : Int32) + (latR (lk3 (tg4 d (nI a0) (nI a1) (nI a2) (nI a3)) 8 40) 40)) + (latR (lk3 (gB d (nI a0) (nI a1) (nI a2) (nI a3)) 24 70) 70))), (3, .int (1 : Int32)), (1, .int (nI (0))), (0, .ref (E.2.2.2 161))]) 149 (fun x => [.int x, .int ((gC d (nI a0) (nI a1) (nI a2) (nI a3)) 78), .int (78 : Int32), .ref (E.2.2.2 162)]) (fun kJ_5 => ?_) (fun x I1 L1 H locs ls hP G hl => ?_)
    · refine lv_aload_n S.1 S.2.1 dX9_goes_129 rfl (lv_at hl 3 rfl) ?_
      refine s_get S hX G (i := 161) (kd := 9) (a := (I 161)) (v := .ref (E.2.2.2 162)) (C := RX9) (T := TX9) (N := 13) 0 (rfl : sh 161 = 9) (up_ne (by decide)) rfl rfl (by decide) rfl (fun _ h => (List.mem_cons_of_mem _ (List.mem_append_right _ h))) (by decide) (List.mem_of_getElem? (i := 1) rfl) (fun _ h => h) dX9_goes_130 ?_
      refine lv_iload_n S.1 S.2.1 dX9_goes_133 rfl (lv_at hl 1 rfl) ?_
      refine s_callS (As := [.int (1 : Int32)]) (rest := [.ref (E.2.2.2 162), .int ((gC d (nI a0) (nI a1) (nI a2) (nI a3)) 78), .int (78 : Int32), .ref (E.2.2.2 162)]) S hX G (k_X9_loadAt_1 l E) (va_cwS (bytes := cX9_loadAt) (maxL := 1) (ret := (some .int)) 1 S.2.2.2.2 gX9_goes_X9_loadAt rfl rfl rfl (by decide +kernel) ⟨Nat.le_of_ble_eq_true rfl, Nat.le_of_ble_eq_true rfl⟩) rfl hl.1 rfl (Nat.le_of_ble_eq_true rfl) ⟨Nat.zero_le _, Nat.zero_le _⟩ dX9_goes_134 (fun v I1 L1 H locs hR G => ?_)
      obtain ⟨hv, hI, hL⟩ := hR
      subst hv
      have G : GS E (up I 162 (gC d (nI a0) (nI a1) (nI a2) (nI a3))) (upL L 161 (vp_updL lx 3 y_4)) sg H locs := G.same hI hL
      refine W.eq (g2 := F0 mg 137 ls [.int (70 : Int32), .ref (E.2.2.2 162), .int ((gC d (nI a0) (nI a1) (nI a2) (nI a3)) 78), .int (78 : Int32), .ref (E.2.2.2 162)]) rfl ?_
      refine lv_bipush (v := (8 : Int32)) S.1 S.2.1 dX9_goes_137 (by decide) ?_
      refine s_iadd (v := (78 : Int32)) S dX9_goes_139 (by decide) ?_
      refine s_iald S hX G (i := 162) (kd := 284) (n := 270) (a := (gC d (nI a0) (nI a1) (nI a2) (nI a3))) (x := ((gC d (nI a0) (nI a1) (nI a2) (nI a3)) 78)) (rfl : sh 162 = 284) up_eq rfl (by decide) (by unfold vp_in; decide) (congrArg (gC d (nI a0) (nI a1) (nI a2) (nI a3)) (by decide)) dX9_goes_140 ?_
      refine lv_if_le (tgt := 148) S.1 S.2.1 dX9_goes_141 (by decide) (fun c_6 => ?_) (fun c_6 => ?_)
      · refine lv_iconst (v := (0 : Int32)) S.1 S.2.1 dX9_goes_148 (by decide) ?_
        exact kJ_5 (0 : Int32) _ _ _ _ _ ⟨(show (0 : Int32) = (decF ((gC d (nI a0) (nI a1) (nI a2) (nI a3)) 78)) by simp [decF, c_6]), rfl, rfl⟩ G (lv_sub hl [0, 1, 2, 3] rfl)
      · refine lv_iconst (v := (1 : Int32)) S.1 S.2.1 dX9_goes_144 (by decide) ?_
        refine lv_goto (tgt := 149) S.1 S.2.1 dX9_goes_145 (by decide) ?_
        exact kJ_5 (1 : Int32) _ _ _ _ _ ⟨(show (1 : Int32) = (decF ((gC d (nI a0) (nI a1) (nI a2) (nI a3)) 78)) by simp [decF, c_6]), rfl, rfl⟩ G (lv_sub hl [0, 1, 2, 3] rfl)
    · obtain ⟨h0, hI, hL⟩ := hP
      have h0 : x = (decF ((gC d (nI a0) (nI a1) (nI a2) (nI a3)) 78)) := h0
      have hl : lv_has ls 4 [(2, .int (((0 : Int32) + (latR (lk3 (tg4 d (nI a0) (nI a1) (nI a2) (nI a3)) 8 40) 40)) + (latR (lk3 (gB d (nI a0) (nI a1) (nI a2) (nI a3)) 24 70) 70))), (3, .int (1 : Int32)), (1, .int (nI (0))), (0, .ref (E.2.2.2 161))] := hl
      have h0 := h0.symm
      subst h0
      have G : GS E (up I 162 (gC d (nI a0) (nI a1) (nI a2) (nI a3))) (upL L 161 (vp_updL lx 3 y_4)) sg H locs := G.same hI hL
      refine W.eq (g2 := F0 mg 149 ls [.int (decF ((gC d (nI a0) (nI a1) (nI a2) (nI a3)) 78)), .int ((gC d (nI a0) (nI a1) (nI a2) (nI a3)) 78), .int (78 : Int32), .ref (E.2.2.2 162)]) rfl ?_
      refine s_isub (v := (((gC d (nI a0) (nI a1) (nI a2) (nI a3)) 78) - (decF ((gC d (nI a0) (nI a1) (nI a2) (nI a3)) 78)))) S dX9_goes_149 rfl ?_
      refine s_iast S hX G (i := 162) (kd := 284) (n := 270) (jn := 78) (a := (gC d (nI a0) (nI a1) (nI a2) (nI a3))) (I' := (up I 162 (upd (gC d (nI a0) (nI a1) (nI a2) (nI a3)) 78 (((gC d (nI a0) (nI a1) (nI a2) (nI a3)) 78) - (decF ((gC d (nI a0) (nI a1) (nI a2) (nI a3)) 78)))))) (rfl : sh 162 = 284) up_eq (fun _ => rfl) (by decide) (by unfold vp_in; decide) (by decide) (by rw [up_up]) dX9_goes_150 (fun H locs G => ?_)
      refine lv_aload_n S.1 S.2.1 dX9_goes_151 rfl (lv_at hl 3 rfl) ?_
      refine lv_dup S.1 S.2.1 dX9_goes_152 rfl ?_
      refine s_getl S hX G (i := 161) (kd := 9) (b := (vp_updL lx 3 y_4)) (v := .long y_4) (C := RX9) (T := TX9) (N := 13) 3 (rfl : sh 161 = 9) upL_eq rfl rfl (by decide) rfl (fun _ h => (List.mem_cons_of_mem _ (List.mem_append_right _ h))) (by decide) (List.mem_of_getElem? (i := 2) rfl) (fun _ h => h) dX9_goes_153 ?_
      refine lv_aload_n S.1 S.2.1 dX9_goes_156 rfl (lv_at hl 3 rfl) ?_
      refine lv_iload_n S.1 S.2.1 dX9_goes_157 rfl (lv_at hl 1 rfl) ?_
      refine s_callV (C := RX9) (As := [.int (1 : Int32)]) (rest := [.long y_4, .ref (E.2.2.2 161)]) (i := 161) (kd := 9) S hX G (k_X9_sizeOf_1 l E (upd (gC d (nI a0) (nI a1) (nI a2) (nI a3)) 78 (((gC d (nI a0) (nI a1) (nI a2) (nI a3)) 78) - (decF ((gC d (nI a0) (nI a1) (nI a2) (nI a3)) 78)))) up_eq) (cwV (bytes := cX9_sizeOf) (maxL := 3) (ret := (some .int)) 1 S.2.2.2.2 gX9_goes_X9_sizeOf rfl rfl rfl (by decide +kernel) ⟨Nat.le_of_ble_eq_true rfl, Nat.le_of_ble_eq_true rfl⟩) (rfl : sh 161 = 9) rfl rfl rfl (by decide) rfl hl.1 rfl (Nat.le_of_ble_eq_true rfl) ⟨Nat.zero_le _, Nat.zero_le _⟩ dX9_goes_158 (fun v I1 L1 H locs hR G => ?_)
      obtain ⟨hv, hI, hL⟩ := hR
      subst hv
      have G : GS E (up I 162 (upd (gC d (nI a0) (nI a1) (nI a2) (nI a3)) 78 (((gC d (nI a0) (nI a1) (nI a2) (nI a3)) 78) - (decF ((gC d (nI a0) (nI a1) (nI a2) (nI a3)) 78))))) (upL L 161 (vp_updL lx 3 y_4)) sg H locs := G.same hI hL
      refine W.eq (g2 := F0 mg 161 ls [.int (absM ((upd (gC d (nI a0) (nI a1) (nI a2) (nI a3)) 78 (((gC d (nI a0) (nI a1) (nI a2) (nI a3)) 78) - (decF ((gC d (nI a0) (nI a1) (nI a2) (nI a3)) 78)))) 74)), .long y_4, .ref (E.2.2.2 161)]) rfl ?_
      refine lv_topi (fun y_7 ey_7 => ?_)
      refine lv_i2l (v := (Int32.toInt64 y_7)) S.1 S.2.1 dX9_goes_161 rfl ?_
      refine s_ladd (v := (y_4 + (Int32.toInt64 y_7))) S dX9_goes_162 rfl ?_
      refine lv_topl (fun y_8 ey_8 => ?_)
      refine s_putl S hX G (i := 161) (kd := 9) (b := (vp_updL lx 3 y_4)) (b' := (vp_updL (vp_updL lx 3 y_4) 3 y_8)) (L' := (upL L 161 (vp_updL (vp_updL lx 3 y_4) 3 y_8))) (v := .long y_8) (ty := .long) (ty0 := tyX9) (C := RX9) (T := TX9) (N := 13) 3 (rfl : sh 161 = 9) upL_eq rfl rfl (by rw [upL_upL]) (by decide) rfl (fun _ h => (List.mem_cons_of_mem _ (List.mem_append_right _ h))) tyX9_ok nmX9 (by decide) (List.mem_of_getElem? (i := 2) rfl) (fun _ h => h) rfl (by decide +kernel) rfl rfl (Nat.le_of_ble_eq_true rfl) dX9_goes_163 (fun H locs G => ?_)
      refine lv_iinc (v := (2 : Int32)) (lv' := [(3, .int (2 : Int32)), (2, .int (((0 : Int32) + (latR (lk3 (tg4 d (nI a0) (nI a1) (nI a2) (nI a3)) 8 40) 40)) + (latR (lk3 (gB d (nI a0) (nI a1) (nI a2) (nI a3)) 24 70) 70))), (1, .int (nI (0))), (0, .ref (E.2.2.2 161))]) S.1 S.2.1 dX9_goes_166 hl (k := 1) rfl (by decide) (by decide) rfl (fun ls hl => ?_)
      refine lv_goto (tgt := 88) S.1 S.2.1 dX9_goes_169 (by decide) ?_
      refine lv_iload_n S.1 S.2.1 dX9_goes_88 rfl (lv_at hl 0 rfl) ?_
      refine lv_iconst (v := (2 : Int32)) S.1 S.2.1 dX9_goes_89 (by decide) ?_
      refine lv_icmp_ge (tgt := 172) S.1 S.2.1 dX9_goes_90 (by decide) (fun _ => ?_) (fun h => absurd (by decide) h)
      refine lv_aload_n S.1 S.2.1 dX9_goes_172 rfl (lv_at hl 3 rfl) ?_
      refine s_callV (C := RX9) (As := []) (rest := []) (i := 161) (kd := 9) S hX G (k_X9_keepsSlot l E (upd (gC d (nI a0) (nI a1) (nI a2) (nI a3)) 78 (((gC d (nI a0) (nI a1) (nI a2) (nI a3)) 78) - (decF ((gC d (nI a0) (nI a1) (nI a2) (nI a3)) 78)))) up_eq) (cwV (bytes := cX9_keepsSlot) (maxL := 2) (ret := none) 0 S.2.2.2.2 gX9_goes_X9_keepsSlot rfl rfl rfl (by decide +kernel) ⟨Nat.le_of_ble_eq_true rfl, Nat.le_of_ble_eq_true rfl⟩) (rfl : sh 161 = 9) rfl rfl rfl (by decide) rfl hl.1 rfl (Nat.le_of_ble_eq_true rfl) ⟨Nat.zero_le _, Nat.zero_le _⟩ dX9_goes_173 (fun v I1 L1 H locs hR G => ?_)
      obtain ⟨hv, hI, hL⟩ := hR
      subst hv
      have hI : I1 = (up (up I 162 (upd (gC d (nI a0) (nI a1) (nI a2) (nI a3)) 78 (((gC d (nI a0) (nI a1) (nI a2) (nI a3)) 78) - (decF ((gC d (nI a0) (nI a1) (nI a2) (nI a3)) 78))))) 162 (gE d (nI a0) (nI a1) (nI a2) (nI a3))) := hI
      have G : GS E (up I 162 (gE d (nI a0) (nI a1) (nI a2) (nI a3))) (upL L 161 (vp_updL (vp_updL lx 3 y_4) 3 y_8)) sg H locs := G.same (hI.trans (by rw [up_up])) hL
      refine W.eq (g2 := F0 mg 176 ls []) rfl ?_
      refine lv_aload_n S.1 S.2.1 dX9_goes_176 rfl (lv_at hl 3 rfl) ?_
      refine s_get S hX G (i := 161) (kd := 9) (a := (I 161)) (v := .ref (E.2.2.2 162)) (C := RX9) (T := TX9) (N := 13) 0 (rfl : sh 161 = 9) (up_ne (by decide)) rfl rfl (by decide) rfl (fun _ h => (List.mem_cons_of_mem _ (List.mem_append_right _ h))) (by decide) (List.mem_of_getElem? (i := 1) rfl) (fun _ h => h) dX9_goes_177 ?_
      refine lv_iconst (v := (0 : Int32)) S.1 S.2.1 dX9_goes_180 (by decide) ?_
      refine lv_dup2_11 S.1 S.2.1 dX9_goes_181 rfl rfl ?_
      refine s_iald S hX G (i := 162) (kd := 284) (n := 270) (a := (gE d (nI a0) (nI a1) (nI a2) (nI a3))) (x := ((gE d (nI a0) (nI a1) (nI a2) (nI a3)) 0)) (rfl : sh 162 = 284) up_eq rfl (by decide) (by unfold vp_in; decide) (congrArg (gE d (nI a0) (nI a1) (nI a2) (nI a3)) (by decide)) dX9_goes_182 ?_
      refine lv_iconst (v := (1 : Int32)) S.1 S.2.1 dX9_goes_183 (by decide) ?_
      refine s_iadd (v := (((gE d (nI a0) (nI a1) (nI a2) (nI a3)) 0) + (1 : Int32))) S dX9_goes_184 rfl ?_
      refine s_iast S hX G (i := 162) (kd := 284) (n := 270) (jn := 0) (a := (gE d (nI a0) (nI a1) (nI a2) (nI a3))) (I' := (up I 162 (upd (gE d (nI a0) (nI a1) (nI a2) (nI a3)) 0 (((gE d (nI a0) (nI a1) (nI a2) (nI a3)) 0) + (1 : Int32))))) (rfl : sh 162 = 284) up_eq (fun _ => rfl) (by decide) (by unfold vp_in; decide) (by decide) (by rw [up_up]) dX9_goes_185 (fun H locs G => ?_)
      refine lv_iload_n S.1 S.2.1 dX9_goes_186 rfl (lv_at hl 1 rfl) ?_
      refine s_iret (x := (((0 : Int32) + (latR (lk3 (tg4 d (nI a0) (nI a1) (nI a2) (nI a3)) 8 40) 40)) + (latR (lk3 (gB d (nI a0) (nI a1) (nI a2) (nI a3)) 24 70) 70))) S G hr hlk dX9_goes_187 ?_
      exact ⟨(congrArg (fun q : Int32 => some (Value.int q)) (show (((0 : Int32) + (latR (lk3 (tg4 d (nI a0) (nI a1) (nI a2) (nI a3)) 8 40) 40)) + (latR (lk3 (gB d (nI a0) (nI a1) (nI a2) (nI a3)) 24 70) 70)) = (gsRW d (wshF d 0 8 40) (wshF d 1 16 40) (wshF d 2 24 70) (wshF d 3 32 70)) by rw [ew0, ew1, ew2, ew3]; rfl)), (st_eq1 (Eq.trans up_eq (show (upd (gE d (nI a0) (nI a1) (nI a2) (nI a3)) 0 (((gE d (nI a0) (nI a1) (nI a2) (nI a3)) 0) + (1 : Int32))) = (gsW d (wshF d 0 8 40) (wshF d 1 16 40) (wshF d 2 24 70) (wshF d 3 32 70)) by first | (rw [ew0, ew1, ew2, ew3, updL_updL, ey_8, ey_7, ey_4, ey_3]; rfl) | (rw [ew0, ew1, ew2, ew3]; rfl))) (fun _ g0 => (up_ne g0))), (lt_eq1 (Eq.trans upL_eq (show (vp_updL (vp_updL lx 3 y_4) 3 y_8) = (vp_updL lx 3 (gsLW d (wshF d 0 8 40) (wshF d 1 16 40) (wshF d 2 24 70) (wshF d 3 32 70) (lx 3))) by first | (rw [ew0, ew1, ew2, ew3, updL_updL, ey_8, ey_7, ey_4, ey_3]; rfl) | (rw [ew0, ew1, ew2, ew3]; rfl))) (fun _ g0 => (upL_ne g0)))⟩
