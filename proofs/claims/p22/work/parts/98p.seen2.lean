/-- what the law's look at the scope has found of a leg up to slot s: the last state that is not off, and the off slots behind it -/
def PwI (sg : Nat → Nat) (a s on off : Nat) : Prop := on ≤ 2 ∧ off ≤ s ∧ ((on = 0 ∧ ∀ i, a ≤ i → i < s → sg i = 0) ∨ (0 < on ∧ ∃ i, a ≤ i ∧ i < s ∧ sg i = on ∧ off = s - 1 - i ∧ ∀ q, i < q → q < s → sg q = 0))
theorem PwI.ok {x : Nat → Int32} {sg : Nat → Nat} {a s on off k D : Nat} (h : PwI sg a s on off) (hR : RgL x sg k D) (hs : s < k) : sg s = 0 ∨ on = 0 ∨ (sg s = on ∧ off = 0) ∨ D ≤ off := by
  obtain ⟨-, -, h | ⟨h1, i, h2, h3, h4, h5, h6⟩⟩ := h
  · exact Or.inr (Or.inl h.1)
  · rcases Nat.eq_zero_or_pos (sg s) with z | z
    · exact Or.inl z
    · rcases hR.2.1 i s h3 hs (by omega) (by omega) h6 with q | q
      · exact Or.inr (Or.inr (Or.inl ⟨by omega, by omega⟩))
      · exact Or.inr (Or.inr (Or.inr (by omega)))
theorem PwI.next {sg : Nat → Nat} {a s on off on' off' : Nat} (h : PwI sg a s on off) (ha : a ≤ s) (h2 : sg s ≤ 2) (hc : (sg s = 0 ∧ on' = on ∧ off' = off + 1) ∨ (0 < sg s ∧ on' = sg s ∧ off' = 0)) : PwI sg a (s + 1) on' off' := by
  obtain ⟨g1, g2, g3⟩ := h
  rcases hc with ⟨c1, c2, c3⟩ | ⟨c1, c2, c3⟩
  · refine ⟨by omega, by omega, ?_⟩
    rcases g3 with ⟨g3, g4⟩ | ⟨g3, i, g4, g5, g6, g7, g8⟩
    · refine Or.inl ⟨by omega, fun i h1 h3 => ?_⟩
      by_cases q : i = s
      · rw [q]
        exact c1
      · exact g4 i h1 (by omega)
    · refine Or.inr ⟨by omega, i, g4, by omega, by omega, by omega, fun q h1 h3 => ?_⟩
      by_cases z : q = s
      · rw [z]
        exact c1
      · exact g8 q h1 (by omega)
  · exact ⟨by omega, by omega, Or.inr ⟨by omega, s, ha, by omega, by omega, by omega, fun q h1 h3 => by omega⟩⟩
set_option maxHeartbeats 4000000 in
theorem sn_leg {pg : Program} {l : Launch} {eg : Env} {sg : State} {mg : MethodId} {args : Array Value} {below : List Frame} {meth : Method} {cg : Code} {Q : State → Prop} {E : Ev} {I : SI} {L : SL} {x : Nat → Int32} {si : Nat → Nat} {D k n pw : Nat} (S : CallFix pg mg cg cL_seen 9 sg args wsL_seen RL) (hX : FX E sg) (hk : I 1 4 = nI k) (hk2 : k < 2 ^ 28) (hD : D < 2 ^ 28) (hpw : 0 < pw) (hpw2 : pw < 2 ^ 28) (hR : RgL x si k D)
    (hv : ∀ s, s < k → k ≤ s + 32 → ∃ v, v < 2 ^ 28 ∧ I 25 (s % 32) = nI v ∧ v / pw % 3 = si s)
    (kk : ∀ (H1 : Heap) (locs1 : List Loc) (ls1 : Array Slot), GS E I L sg H1 locs1 → lv_has ls1 9 [(3, .int (nI (n + 1))), (2, .int (1 : Int32)), (1, .int (nI D)), (0, .ref (E.2.2.2 0))] → W pg l eg ({ frames := 4, cells := 0, slots := 0, locals := 100 } : Room) sg mg args below meth cg H1 locs1 0 0 Q (F0 mg 4 ls1 [])) :
    ∀ (t on off : Nat), t ≤ Nat.min k 32 → PwI si (k - Nat.min k 32) (k - t) on off → ∀ (H : Heap) (locs : List Loc) (ls : Array Slot), GS E I L sg H locs → lv_has ls 9 [(7, .int (nI t - (1 : Int32))), (6, .int (nI off)), (5, .int (nI on)), (4, .int (nI pw)), (3, .int (nI n)), (2, .int (1 : Int32)), (1, .int (nI D)), (0, .ref (E.2.2.2 0))] → W pg l eg ({ frames := 4, cells := 0, slots := 0, locals := 100 } : Room) sg mg args below meth cg H locs 0 0 Q (F0 mg 60 ls []) := by
  have hmin : Nat.min k 32 ≤ k := Nat.min_le_left k 32
  have hmin2 : Nat.min k 32 ≤ 32 := Nat.min_le_right k 32
  intro t
  induction t with
  | zero =>
    intro on off _ _ H locs ls G hl
    exact sn_inx S hX G hl kk
  | succ b ih =>
    intro on off ht hP H locs ls G hl
    rw [nI_pred] at hl
    have e1 : k - 1 - b = k - (b + 1) := by omega
    obtain ⟨v, hv2, hv3, hv4⟩ := hv (k - 1 - b) (by omega) (by omega)
    have hok := hP.ok hR (by omega)
    rw [← e1] at hok
    refine sn_in (k := k) (b := b) (v := v) (pw := pw) (st := si (k - 1 - b)) (on := on) (off := off) S hX G hl hk hk2 (by omega) (by omega) hv3 hv2 hpw hpw2 hv4 (hR.1 _) hP.1 (by have := hP.2.1; omega) hD hok (fun on' off' hc H1 locs1 ls1 G1 hl1 => ?_)
    rw [e1] at hc
    have hn := hP.next (by omega) (hR.1 _) hc
    rw [show k - (b + 1) + 1 = k - b by omega] at hn
    exact ih on' off' (by omega) hn H1 locs1 ls1 G1 hl1
set_option maxHeartbeats 4000000 in
theorem sn_cur {pg : Program} {l : Launch} {eg : Env} {sg : State} {mg : MethodId} {args : Array Value} {below : List Frame} {meth : Method} {cg : Code} {Q : State → Prop} {E : Ev} {I : SI} {L : SL} {ga : Nat → Nat → Int} {M : Nat → Nat} {D k : Nat} (S : CallFix pg mg cg cL_seen 9 sg args wsL_seen RL) (hX : FX E sg) (hk : I 1 4 = nI k) (hk2 : k < 2 ^ 28) (hdv : DvI I M) (hC : ∀ j, j < 2 → RgC ((I (ldb j) 4).toInt) (ga j) k (M j))
    (hv : ∀ j, j < 2 → ∀ s, s < k → k ≤ s + 32 → (I (23 + j) (s % 32)).toInt = ga j s)
    (kk : ∀ (H1 : Heap) (locs1 : List Loc) (ls1 : Array Slot), GS E I L sg H1 locs1 → lv_has ls1 9 [(2, .int (1 : Int32))] → W pg l eg ({ frames := 4, cells := 0, slots := 0, locals := 100 } : Room) sg mg args below meth cg H1 locs1 0 0 Q (F0 mg 263 ls1 [])) :
    ∀ (r b : Nat), b + r = Nat.min k 32 → ∀ (H : Heap) (locs : List Loc) (ls : Array Slot), GS E I L sg H locs → lv_has ls 9 [(3, .int (nI b)), (2, .int (1 : Int32)), (1, .int (nI D)), (0, .ref (E.2.2.2 0))] → W pg l eg ({ frames := 4, cells := 0, slots := 0, locals := 100 } : Room) sg mg args below meth cg H locs 0 0 Q (F0 mg 160 ls []) := by
  have hmin : Nat.min k 32 ≤ k := Nat.min_le_left k 32
  have hmin2 : Nat.min k 32 ≤ 32 := Nat.min_le_right k 32
  have key : ∀ j, j < 2 → ∀ b, b + 1 < Nat.min k 32 → ∀ s0 s1, M j = s0 + s1 → s0 ≤ 1000 → s1 ≤ 1000 → ¬ nI (s0 + s1) < I (23 + j) ((k - 1 - b) % 32) - I (23 + j) ((k - 1 - (b + 1)) % 32) ∧ ¬ I (23 + j) ((k - 1 - b) % 32) - I (23 + j) ((k - 1 - (b + 1)) % 32) < -nI (s0 + s1) := by
    intro j hj b hb s0 s1 hM l0 l1
    have a1 := hv j hj (k - 1 - b) (by omega) (by omega)
    have a2 := hv j hj (k - 1 - (b + 1)) (by omega) (by omega)
    obtain ⟨c1, c2, -⟩ := hC j hj
    have d1 := c1 (k - 1 - (b + 1)) (by omega)
    rw [show k - 1 - (b + 1) + 1 = k - 1 - b by omega, hM] at d1
    have d2 := c2 (k - 1 - b) (by omega)
    have d3 := c2 (k - 1 - (b + 1)) (by omega)
    have es := i32_sub (x := I (23 + j) ((k - 1 - b) % 32)) (y := I (23 + j) ((k - 1 - (b + 1)) % 32)) (by omega) (by omega)
    have em : (nI (s0 + s1)).toInt = ((s0 + s1 : Nat) : Int) := nI_toInt (by omega)
    have en : (-nI (s0 + s1)).toInt = -((s0 + s1 : Nat) : Int) := by
      rw [Int32.toInt_neg, em]
      exact Int.bmod_eq_of_le (by omega) (by omega)
    constructor
    · intro q
      have q := Int32.lt_iff_toInt_lt.mp q
      omega
    · intro q
      have q := Int32.lt_iff_toInt_lt.mp q
      omega
  intro r
  induction r with
  | zero =>
    intro b hb H locs ls G hl
    exact sn_c9 (k := k) (b := b) S hX G hl hk hk2 (by omega) (by omega) (by omega) kk
  | succ r ih =>
    intro b hb H locs ls G hl
    rcases Nat.lt_or_ge (b + 1) (Nat.min k 32) with hc | hc
    · obtain ⟨s0, s1, e0, e1, l0, l1, eM⟩ := hdv 0 (by decide)
      obtain ⟨t0, t1, u0, u1, m0, m1, eN⟩ := hdv 1 (by decide)
      have k0 := key 0 (by decide) b hc s0 s1 eM l0 l1
      have k1 := key 1 (by decide) b hc t0 t1 eN m0 m1
      refine sn_c1 (k := k) (b := b) S hX G hl hk hk2 hc (by omega) (fun H locs ls G hl => ?_)
      refine sn_c2 (k := k) (b := b) (j := 0) (s0 := s0) (s1 := s1) S hX G hl (by decide) hk hk2 hc e0 e1 k0.1 k0.2 (fun H locs ls G hl => ?_)
      refine sn_c2 (k := k) (b := b) (j := 1) (s0 := t0) (s1 := t1) S hX G hl (by decide) hk hk2 hc u0 u1 k1.1 k1.2 (fun H locs ls G hl => ?_)
      refine sn_c3 S hX G hl (fun H locs ls G hl => ?_)
      exact ih (b + 1) (by omega) H locs ls G hl
    · exact sn_c9 (k := k) (b := b) S hX G hl hk hk2 (by omega) hc (by omega) kk
set_option maxHeartbeats 4000000 in
/-- the law's look at the scope -/
theorem k_seen (l : Launch) (E : Ev) {I : SI} {L : SL} (k D : Nat) (M : Nat → Nat) (hB : BlkI I 1 k) (hk2 : k < 2 ^ 28) (hR : RingI I k D M) (hdv : DvI I M) (hD : D < 2 ^ 28) : RD l yL_seen wsL_seen ({ frames := 4, cells := 0, slots := 0, locals := 100 } : Room) E [.ref (E.2.2.2 0), .int (nI D)] I L (.int (1 : Int32)) := by
  refine CS.of (cc := cL_seen) (maxL := 9) (ret := (some .boolean)) (by decide) rfl (Nat.le_of_ble_eq_true rfl) ?_
  intro pg eg sg mg below meth cg ls S hr hlk hX G hl
  have S : CallFix pg mg cg cL_seen 9 sg _ wsL_seen RL := S
  have hl : lv_has ls 9 [(0, .ref (E.2.2.2 0)), (1, .int (nI D))] := hl
  have hk := hB.1
  obtain ⟨si, ga, hL, hC, hsc⟩ := hR
  have hmin : Nat.min k 32 ≤ k := Nat.min_le_left k 32
  have hmin2 : Nat.min k 32 ≤ 32 := Nat.min_le_right k 32
  have s2 : ∀ n, n < 4 → ∀ s, si n s ≤ 2 := fun n hn s => (hL n hn).1 s
  have hv : ∀ n pw, ((n = 0 ∧ pw = 1) ∨ (n = 1 ∧ pw = 3) ∨ (n = 2 ∧ pw = 9) ∨ (n = 3 ∧ pw = 27)) → ∀ s, s < k → k ≤ s + 32 → ∃ v, v < 2 ^ 28 ∧ I 25 (s % 32) = nI v ∧ v / pw % 3 = si n s := by
    intro n pw hn s h1 h2
    have a0 := s2 0 (by decide) s
    have a1 := s2 1 (by decide) s
    have a2 := s2 2 (by decide) s
    have a3 := s2 3 (by decide) s
    refine ⟨_, ?_, (hsc s h1 h2).1, ?_⟩
    · omega
    · rcases hn with ⟨rfl, rfl⟩ | ⟨rfl, rfl⟩ | ⟨rfl, rfl⟩ | ⟨rfl, rfl⟩ <;> omega
  have hP : ∀ n, PwI (si n) (k - Nat.min k 32) (k - Nat.min k 32) 0 0 := fun n => ⟨by omega, by omega, Or.inl ⟨rfl, fun i h1 h2 => by omega⟩⟩
  refine sn_0 S hX G hl (fun H locs ls G hl => ?_)
  refine sn_out0 (k := k) S hX G hl hk hk2 (fun H locs ls G hl => ?_)
  refine sn_leg (n := 0) (pw := 1) (k := k) S hX hk hk2 hD (by decide) (by decide) (hL 0 (by decide)) (hv 0 1 (Or.inl ⟨rfl, rfl⟩)) (fun H locs ls G hl => ?_) (Nat.min k 32) 0 0 (Nat.le_refl _) (hP 0) H locs ls G hl
  refine sn_out1 (k := k) S hX G hl hk hk2 (fun H locs ls G hl => ?_)
  refine sn_leg (n := 1) (pw := 3) (k := k) S hX hk hk2 hD (by decide) (by decide) (hL 1 (by decide)) (hv 1 3 (Or.inr (Or.inl ⟨rfl, rfl⟩))) (fun H locs ls G hl => ?_) (Nat.min k 32) 0 0 (Nat.le_refl _) (hP 1) H locs ls G hl
  refine sn_out2 (k := k) S hX G hl hk hk2 (fun H locs ls G hl => ?_)
  refine sn_leg (n := 2) (pw := 9) (k := k) S hX hk hk2 hD (by decide) (by decide) (hL 2 (by decide)) (hv 2 9 (Or.inr (Or.inr (Or.inl ⟨rfl, rfl⟩)))) (fun H locs ls G hl => ?_) (Nat.min k 32) 0 0 (Nat.le_refl _) (hP 2) H locs ls G hl
  refine sn_out3 (k := k) S hX G hl hk hk2 (fun H locs ls G hl => ?_)
  refine sn_leg (n := 3) (pw := 27) (k := k) S hX hk hk2 hD (by decide) (by decide) (hL 3 (by decide)) (hv 3 27 (Or.inr (Or.inr (Or.inr ⟨rfl, rfl⟩)))) (fun H locs ls G hl => ?_) (Nat.min k 32) 0 0 (Nat.le_refl _) (hP 3) H locs ls G hl
  refine sn_mid S hX G hl (fun H locs ls G hl => ?_)
  refine sn_cur (k := k) (M := M) S hX hk hk2 hdv hC (n2 (fun s h1 h2 => (hsc s h1 h2).2.1) (fun s h1 h2 => (hsc s h1 h2).2.2)) (fun H locs ls G hl => ?_) (Nat.min k 32) 0 (Nat.zero_add _) H locs ls G hl
  refine lv_iload_n S.1 S.2.1 dL_seen_263 rfl (lv_at hl 0 rfl) ?_
  refine s_zret (x := (1 : Int32)) S G hr hlk dL_seen_264 (Or.inr rfl) ?_
  exact ⟨rfl, rfl, rfl⟩
