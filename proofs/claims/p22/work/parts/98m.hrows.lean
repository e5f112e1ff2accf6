/-! rows for the law's methods: a call that only looks; the places of the faults -/
section LROWS
variable {p : Program} {l : Launch} {e : Env} {R : Room} {s : State} {m : MethodId} {args : Array Value} {below : List Frame} {meth : Method} {c : Code} {H : Heap} {locs : List Loc} {cells slots : Nat} {Q : State → Prop}
variable {cc : ByteArray} {pc nL : Nat} {ls : Array Slot} {rest : List Value} {E : Ev} {I : SI} {L : SL} {Ts : List Cond} {own : String}
theorem s_read (S : CallFix p m c cc nL s args Ts own) (hX : FX E s) (G : GS E I L s H locs) {y : MethodName} {bytes : ByteArray} {maxL : Nat} {ret : Option FieldType} {ws : List Cond} {rm : Room} {index n : Nat} {As st0 : List Value} {x : Value} (hM : RD l y ws rm E (.ref (E.2.2.2 0) :: As) I L x) (cw' : CallW R s args own RX8 index y bytes maxL ret ws rm 0 0 n) (hn : As.length = n) (hsize : ls.size = nL) (hstack : st0 = As.reverse ++ .ref (E.2.2.2 0) :: rest) (hW : (rest.map fun v => v.category).sum ≤ 8) (hf : cells ≤ R.cells ∧ slots ≤ R.slots) (hdg : decode cc pc = .ok (.invokevirtual index, 3))
    (kk : ∀ (H1 : Heap) (locs1 : List Loc), GS E I L s H1 locs1 → W p l e R s m args below meth c H1 locs1 cells slots Q (F0 m (pc + 3) ls (x :: rest))) : W p l e R s m args below meth c H locs cells slots Q (F0 m pc ls st0) :=
  s_callV (C := RX8) (i := 0) (kd := 8) S hX G hM cw' (rfl : sh 0 = 8) rfl rfl rfl (by decide) hn hsize hstack hW hf hdg (fun v I1 L1 H1 locs1 hR G1 => by
    obtain ⟨hv, hI, hL⟩ := hR
    subst hv
    exact kk H1 locs1 (G1.same hI hL))
theorem s_readS (S : CallFix p m c cc nL s args Ts own) (hX : FX E s) (G : GS E I L s H locs) {y : MethodName} {bytes : ByteArray} {maxL : Nat} {ret : Option FieldType} {ws : List Cond} {rm : Room} {index n : Nat} {As st0 : List Value} {x : Value} (hM : RD l y ws rm E As I L x) (cw' : CallB R s args own index y bytes maxL ret ws rm 0 0 n ∧ (Cond.static y).before args s = true) (hn : As.length = n) (hsize : ls.size = nL) (hstack : st0 = As.reverse ++ rest) (hW : (rest.map fun v => v.category).sum ≤ 8) (hf : cells ≤ R.cells ∧ slots ≤ R.slots) (hdg : decode cc pc = .ok (.invokestatic index, 3))
    (kk : ∀ (H1 : Heap) (locs1 : List Loc), GS E I L s H1 locs1 → W p l e R s m args below meth c H1 locs1 cells slots Q (F0 m (pc + 3) ls (x :: rest))) : W p l e R s m args below meth c H locs cells slots Q (F0 m pc ls st0) :=
  s_callS S hX G hM cw' hn hsize hstack hW hf hdg (fun v I1 L1 H1 locs1 hR G1 => by
    obtain ⟨hv, hI, hL⟩ := hR
    subst hv
    exact kk H1 locs1 (G1.same hI hL))
end LROWS
def plP (t u : Nat → Int32) : Nat → Int32
  | 0 => 0
  | f + 1 => plP t u f ||| (if ¬ t f = 0 then (1 : Int32) <<< (plcF t u f &&& 31) else 0)
theorem plP_p {t u : Nat → Int32} {f : Nat} (h : ¬ t f = 0) : plP t u f ||| ((1 : Int32) <<< (plcF t u f &&& 31)) = plP t u (f + 1) := by
  show _ = plP t u f ||| (if ¬ t f = 0 then (1 : Int32) <<< (plcF t u f &&& 31) else 0)
  rw [if_pos h]
theorem plP_n {t u : Nat → Int32} {f : Nat} (h : t f = 0) : plP t u f ||| 0 = plP t u (f + 1) := by
  show _ = plP t u f ||| (if ¬ t f = 0 then (1 : Int32) <<< (plcF t u f &&& 31) else 0)
  rw [if_neg (fun q => q h)]
def bI (b : Bool) : Int32 := if b then 1 else 0
theorem isb_bI {x : Int32} (h : isb x) : ∃ b, x = bI b := by
  rcases h with h | h
  · exact ⟨false, h⟩
  · exact ⟨true, h⟩
theorem ord_lt {x y : Int32} {o f : Nat} (h : o < f) : (x < y ∨ (x = y ∧ o < f)) ↔ decide (x ≤ y) = true := by
  rw [decide_eq_true_iff, Int32.lt_iff_toInt_lt, Int32.le_iff_toInt_le, ← Int32.toInt_inj]
  omega
theorem ord_gt {x y : Int32} {o f : Nat} (h : f < o) : (y < x ∨ (y = x ∧ o < f)) ↔ (!decide (x ≤ y)) = true := by
  rw [Bool.not_eq_true', decide_eq_false_iff_not, Int32.lt_iff_toInt_lt, Int32.le_iff_toInt_le, ← Int32.toInt_inj]
  omega
theorem ord_eq {x : Int32} {f : Nat} : (x < x ∨ (x = x ∧ f < f)) ↔ false = true := by
  constructor
  · intro q
    rcases q with q | q
    · have := Int32.lt_iff_toInt_lt.mp q
      omega
    · omega
  · intro q
    cases q
theorem plc_b {t u : Nat → Int32} {o f : Nat} {x a : Bool} (ht : t o = bI x) (ha : (u o < u f ∨ (u o = u f ∧ o < f)) ↔ a = true) : plc1 t u o f = bI (x && a) := by
  unfold plc1
  cases x with
  | false =>
    rw [if_neg (fun q => q.1 ht)]
    rfl
  | true =>
    have h1 : ¬ t o = 0 := by
      rw [ht]
      decide
    cases a with
    | false =>
      rw [if_neg (fun q => by have := ha.mp q.2; cases this)]
      rfl
    | true =>
      rw [if_pos ⟨h1, ha.mpr rfl⟩]
      rfl
theorem pl_all : ∀ x0 x1 x2 A B C : Bool, ¬ (A = true ∧ C = true ∧ B = false) → ¬ (A = false ∧ C = false ∧ B = true) →
    (((0 ||| (if ¬ bI x0 = 0 then (1 : Int32) <<< ((0 + bI (x0 && false) + bI (x1 && !A) + bI (x2 && !B)) &&& 31) else 0)) ||| (if ¬ bI x1 = 0 then (1 : Int32) <<< ((0 + bI (x0 && A) + bI (x1 && false) + bI (x2 && !C)) &&& 31) else 0)) ||| (if ¬ bI x2 = 0 then (1 : Int32) <<< ((0 + bI (x0 && B) + bI (x1 && C) + bI (x2 && false)) &&& 31) else 0)) = (1 : Int32) <<< ((bI x0 + bI x1 + bI x2) &&& 31) - 1 := by decide +kernel
theorem plP_3 {t u : Nat → Int32} (h : ∀ f, f < 3 → isb (t f)) : plP t u 3 = (1 : Int32) <<< ((t 0 + t 1 + t 2) &&& 31) - 1 := by
  obtain ⟨x0, h0⟩ := isb_bI (h 0 (by decide))
  obtain ⟨x1, h1⟩ := isb_bI (h 1 (by decide))
  obtain ⟨x2, h2⟩ := isb_bI (h 2 (by decide))
  have p0 : plcF t u 0 = 0 + bI (x0 && false) + bI (x1 && !decide (u 0 ≤ u 1)) + bI (x2 && !decide (u 0 ≤ u 2)) := by
    unfold plcF
    rw [plc_b h0 ord_eq, plc_b h1 (ord_gt (by decide)), plc_b h2 (ord_gt (by decide))]
  have p1 : plcF t u 1 = 0 + bI (x0 && decide (u 0 ≤ u 1)) + bI (x1 && false) + bI (x2 && !decide (u 1 ≤ u 2)) := by
    unfold plcF
    rw [plc_b h0 (ord_lt (by decide)), plc_b h1 ord_eq, plc_b h2 (ord_gt (by decide))]
  have p2 : plcF t u 2 = 0 + bI (x0 && decide (u 0 ≤ u 2)) + bI (x1 && decide (u 1 ≤ u 2)) + bI (x2 && false) := by
    unfold plcF
    rw [plc_b h0 (ord_lt (by decide)), plc_b h1 (ord_lt (by decide)), plc_b h2 ord_eq]
  have c1 : ¬ (decide (u 0 ≤ u 1) = true ∧ decide (u 1 ≤ u 2) = true ∧ decide (u 0 ≤ u 2) = false) := by
    rw [decide_eq_true_iff, decide_eq_true_iff, decide_eq_false_iff_not, Int32.le_iff_toInt_le, Int32.le_iff_toInt_le, Int32.le_iff_toInt_le]
    omega
  have c2 : ¬ (decide (u 0 ≤ u 1) = false ∧ decide (u 1 ≤ u 2) = false ∧ decide (u 0 ≤ u 2) = true) := by
    rw [decide_eq_true_iff, decide_eq_false_iff_not, decide_eq_false_iff_not, Int32.le_iff_toInt_le, Int32.le_iff_toInt_le, Int32.le_iff_toInt_le]
    omega
  show (((0 ||| (if ¬ t 0 = 0 then (1 : Int32) <<< (plcF t u 0 &&& 31) else 0)) ||| (if ¬ t 1 = 0 then (1 : Int32) <<< (plcF t u 1 &&& 31) else 0)) ||| (if ¬ t 2 = 0 then (1 : Int32) <<< (plcF t u 2 &&& 31) else 0)) = _
  rw [p0, p1, p2, h0, h1, h2]
  exact pl_all x0 x1 x2 _ _ _ c1 c2
theorem BlkI.leg {I : SI} {k : Nat} (h : BlkI I 1 k) : ∀ n, n < 4 → LegI (I (lgc n)) k := n4 h.2.1.1 h.2.1.2.1 h.2.2.1 h.2.2.2.1
theorem BlkI.lo {I : SI} {k : Nat} (h : BlkI I 1 k) : ∀ j, j < 2 → LoI (I (ldb j)) := n2 h.2.1.2.2.1 h.2.2.2.2.1
theorem BlkI.ft {I : SI} {k : Nat} (h : BlkI I 1 k) : ∀ j, j < 2 → FtI (I (ftn j)) (I (ftt j)) (I (ftu j)) k := n2 h.2.1.2.2.2 h.2.2.2.2.2
theorem r_fault_1p (l : Launch) (E : Ev) {I : SI} {L : SL} (j f m : Nat) (hj : j < 2) (hf : f < 3) (h : ¬ I (ftt j) f = 0) (hu : I (ftu j) f = nI m) : RD l yX8_fault wsX8_fault ({ frames := 3, cells := 0, slots := 0, locals := 63 }) E [.ref (E.2.2.2 0), .int (nI j), .int (nI f), .int (1 : Int32)] I L (.int (nI m)) := by
  have q := r_fault_1 l E (I := I) (L := L) j f hj hf
  rw [if_pos h, hu] at q
  exact q
theorem r_fault_3p (l : Launch) (E : Ev) {I : SI} {L : SL} (j f : Nat) (hj : j < 2) (hf : f < 3) (h : ¬ I (ftt j) f = 0) : RD l yX8_fault wsX8_fault ({ frames := 4, cells := 0, slots := 0, locals := 88 }) E [.ref (E.2.2.2 0), .int (nI j), .int (nI f), .int (3 : Int32)] I L (.int (plcF (I (ftt j)) (I (ftu j)) f)) := by
  have q := r_fault_3 l E (I := I) (L := L) j f hj hf
  rw [if_pos h] at q
  exact q
