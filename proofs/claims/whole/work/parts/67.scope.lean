theorem my_xor (a b : Nat) : nI a ^^^ nI b = nI (a ^^^ b) := by
  apply Int32.toBitVec_inj.1
  show BitVec.ofNat 32 a ^^^ BitVec.ofNat 32 b = BitVec.ofNat 32 (a ^^^ b)
  apply BitVec.eq_of_getLsbD_eq
  intro i hi
  simp [hi]
theorem xor32 {k : Nat} (hk : k < 2 ^ 31) : 0 ≤ nI k ^^^ (32 : Int32) := by
  rw [show (32 : Int32) = nI 32 from rfl, my_xor]
  exact nI_pos' (Nat.xor_lt_two_pow hk (by decide))
set_option maxHeartbeats 4000000 in
set_option maxRecDepth 100000 in
theorem k_J9_floorMod_7cf53 (l : Launch) (E : Ev) {I : SI} {L : SL} (k : Nat) (hk : k < 2 ^ 31) : CS l yJ9_floorMod_7cf53 wsJ9_floorMod_7cf53 ({ frames := 0, cells := 0, slots := 0, locals := 0 }) E [.int (nI k), .int (32 : Int32)] I L (fun vv I' L' => vv = some (.int (nI (k % 32))) ∧ I' = I ∧ L' = L) := by
  refine CS.ofF (cc := cJ9_floorMod_7cf53) (maxL := 3) (ret := (some .int)) (by decide +kernel) rfl (Nat.le_of_ble_eq_true rfl) ?_
  intro pg en sg mg below meth cg ls S hr hlk hX G hl
  have S : CallFix pg mg cg cJ9_floorMod_7cf53 3 sg _ wsJ9_floorMod_7cf53 RJ9 := S
  have hl : lv_has ls 3 [(0, .int (nI k)), (1, .int (32 : Int32))] := hl
  refine lv_iload_n S.1 S.2.1 dJ9_floorMod_7cf53_0 rfl (lv_at hl 0 rfl) ?_
  refine lv_iload_n S.1 S.2.1 dJ9_floorMod_7cf53_1 rfl (lv_at hl 1 rfl) ?_
  refine s_irem (v := (nI (k % 32))) S dJ9_floorMod_7cf53_2 (by decide) (pk_rem (d := 32) hk (by decide) (by decide)) ?_
  refine lv_istore_n (lv' := [(2, .int (nI (k % 32))), (0, .int (nI k)), (1, .int (32 : Int32))]) S.1 S.2.1 dJ9_floorMod_7cf53_3 rfl hl (by decide) rfl (fun ls hl => ?_)
  refine lv_iload_n S.1 S.2.1 dJ9_floorMod_7cf53_4 rfl (lv_at hl 1 rfl) ?_
  refine lv_iload_n S.1 S.2.1 dJ9_floorMod_7cf53_5 rfl (lv_at hl 2 rfl) ?_
  refine lv_ixor S.1 S.2.1 dJ9_floorMod_7cf53_6 ?_
  refine lv_if_ge (tgt := 18) S.1 S.2.1 dJ9_floorMod_7cf53_7 (by decide) (fun _ => ?_) (fun h => absurd (xor32 hk) h)
  refine lv_iload_n S.1 S.2.1 dJ9_floorMod_7cf53_18 rfl (lv_at hl 0 rfl) ?_
  refine s_iret (x := (nI (k % 32))) S G hr hlk dJ9_floorMod_7cf53_19 ?_
  exact ⟨rfl, rfl, rfl⟩
