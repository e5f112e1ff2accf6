/-! the relation of class and model; pairs of calls -/
def RelB (I : SI) (L : SL) (d : Nat → Int32) (sz : Int64) (k : Nat) : Prop := RB 1 I L d sz k ∧ k ≤ 100000 ∧ I 20 0 = 0 ∧ I 5 0 = 6 ∧ I 14 0 = 6
def HisR (I : SI) (L : SL) (wa : Nat → Int32) (lz : Nat → Int64) (o kp : Nat) : Prop := ∀ j, j < kp → ∃ kj, kj ≤ 100000 ∧ RB (recT o j) I L (fun z => wa (270 * j + z)) (lz j) kj
def RelH (I : SI) (L : SL) (wa : Nat → Int32) (lz : Nat → Int64) (o kp : Nat) : Prop := o < 4 ∧ kp ≤ 4 ∧ I 53 1 = nI o ∧ I 53 2 = nI kp ∧ HisR I L wa lz o kp
def RelT (I : SI) (g : Nat → Int32) (n : Nat) : Prop := n ≤ 80 ∧ I 159 1 = nI n ∧ ∀ j, j < n → I 160 j = g j ∧ chr (g j)
def RelC (I : SI) (L : SL) (d : Nat → Int32) (sz : Int64) (wa : Nat → Int32) (lz : Nat → Int64) (g : Nat → Int32) (k o kp n : Nat) : Prop := RelB I L d sz k ∧ RelH I L wa lz o kp ∧ RelT I g n
def Rel (I : SI) (L : SL) : Prop := ∃ k o kp n, RelC I L (I 162) (L 161 3) (I 163) (L 164) (I 166) k o kp n ∧ I 161 2 = nI kp ∧ I 161 8 = nI n
theorem recT_in {o j : Nat} : 55 ≤ recT o j ∧ recT o j + 26 ≤ 159 := by unfold recT; omega
theorem RelB.cong {I I' : SI} {L L' : SL} {d d' : Nat → Int32} {sz : Int64} {k : Nat} (h : RelB I L d sz k) (hI : ∀ z, 1 ≤ z → z < 27 → I' z = I z) (hL : ∀ z, 1 ≤ z → z < 27 → L' z = L z) (hd : ∀ z, z < 270 → d' z = d z) : RelB I' L' d' sz k :=
  ⟨h.1.cong (fun z a b => hI z a (by omega)) (fun z a b => hL z a (by omega)) hd, h.2.1, by rw [hI 20 (by decide) (by decide)]; exact h.2.2.1, by rw [hI 5 (by decide) (by decide)]; exact h.2.2.2.1, by rw [hI 14 (by decide) (by decide)]; exact h.2.2.2.2⟩
theorem RelH.cong {I I' : SI} {L L' : SL} {wa wa' : Nat → Int32} {lz lz' : Nat → Int64} {o kp : Nat} (h : RelH I L wa lz o kp) (hI : ∀ z, z = 53 ∨ (55 ≤ z ∧ z < 159) → I' z = I z) (hL : ∀ z, 55 ≤ z → z < 159 → L' z = L z) (hw : ∀ z, z < 1080 → wa' z = wa z) (hz : ∀ j, j < 4 → lz' j = lz j) : RelH I' L' wa' lz' o kp := by
  obtain ⟨a, b, c, e, f⟩ := h
  refine ⟨a, b, by rw [hI 53 (Or.inl rfl)]; exact c, by rw [hI 53 (Or.inl rfl)]; exact e, fun j hj => ?_⟩
  obtain ⟨kj, h1, h2⟩ := f j hj
  have hr := @recT_in o j
  rw [hz j (by omega)]
  exact ⟨kj, h1, h2.cong (fun z x y => hI z (Or.inr ⟨by omega, by omega⟩)) (fun z x y => hL z (by omega) (by omega)) (fun z q => hw _ (by omega))⟩
theorem RelT.cong {I I' : SI} {g g' : Nat → Int32} {n : Nat} (h : RelT I g n) (h1 : I' 159 = I 159) (h2 : I' 160 = I 160) (hg : ∀ j, j < 80 → g' j = g j) : RelT I' g' n :=
  ⟨h.1, by rw [h1]; exact h.2.1, fun j hj => by rw [h2, hg j (by have := h.1; omega)]; exact h.2.2 j hj⟩
/-- the model's rows follow -/
theorem Rel.mk2 {I1 I2 : SI} {L1 L2 : SL} {d : Nat → Int32} {sz : Int64} {wa : Nat → Int32} {lz : Nat → Int64} {g : Nat → Int32} {k o kp n : Nat} (hC : RelC I1 L1 d sz wa lz g k o kp n) (hI : ∀ z, z < 161 → I2 z = I1 z) (hL : ∀ z, z < 161 → L2 z = L1 z) (ed : ∀ z, z < 270 → I2 162 z = d z) (es : L2 161 3 = sz) (ew : ∀ z, z < 1080 → I2 163 z = wa z) (el : ∀ j, j < 4 → L2 164 j = lz j) (eg : ∀ j, j < 80 → I2 166 j = g j) (e2 : I2 161 2 = nI kp) (e8 : I2 161 8 = nI n) : Rel I2 L2 := by
  obtain ⟨a, b, c⟩ := hC
  refine ⟨k, o, kp, n, ⟨?_, b.cong (fun z hz => hI z (by omega)) (fun z h1 h2 => hL z (by omega)) ew el, c.cong (hI 159 (by decide)) (hI 160 (by decide)) eg⟩, e2, e8⟩
  rw [es]
  exact a.cong (fun z h1 h2 => hI z (by omega)) (fun z h1 h2 => hL z (by omega)) ed
/-- the bridge alone has changed -/
theorem RelC.br {I I' : SI} {L L' : SL} {d d' : Nat → Int32} {sz sz' : Int64} {wa : Nat → Int32} {lz : Nat → Int64} {g : Nat → Int32} {k k' o kp n : Nat} (h : RelC I L d sz wa lz g k o kp n) (hB : RelB I' L' d' sz' k') (hI : ∀ z, 53 ≤ z → z < 161 → I' z = I z) (hL : ∀ z, 53 ≤ z → z < 161 → L' z = L z) : RelC I' L' d' sz' wa lz g k' o kp n :=
  ⟨hB, h.2.1.cong (fun z hz => hI z (by omega) (by omega)) (fun z h1 h2 => hL z (by omega) (by omega)) (fun _ _ => rfl) (fun _ _ => rfl), h.2.2.cong (hI 159 (by decide) (by decide)) (hI 160 (by decide) (by decide)) (fun _ _ => rfl)⟩
/-- a state is recorded -/
theorem RelC.rec {I I1 : SI} {L L1 : SL} {d : Nat → Int32} {sz : Int64} {wa : Nat → Int32} {lz : Nat → Int64} {g : Nat → Int32} {k o kp n : Nat} (h : RelC I L d sz wa lz g k o kp n) (r : RecP I L I1 L1 o kp) : ∃ o', RelC I1 L1 d sz (recW d wa kp) (recS lz sz kp) g k o' (recK kp) n := by
  obtain ⟨a, ⟨b1, b2, b3, b4, b5⟩, c⟩ := h
  have r' := r
  obtain ⟨r1, r2, r3, r4, r5⟩ := r
  have a' : RelB I1 L1 d sz k := a.cong (fun z h1 h2 => r'.fr (by omega) (by omega)) (fun z h1 h2 => r'.frL (by omega)) (fun _ _ => rfl)
  have c' : RelT I1 g n := c.cong (r'.fr2 (by decide)) (r'.fr2 (by decide)) (fun _ _ => rfl)
  have new : RB (recT o kp) I1 L1 d sz k := a.1.copy r1
  have ft := @recT_in o kp
  rcases (show kp = 4 ∨ kp < 4 by omega) with e | e
  · subst e
    rw [if_pos rfl] at r4
    refine ⟨(o + 1) % 4, a', ⟨Nat.mod_lt _ (by decide), recK_le (Nat.le_refl 4), r4, r5, ?_⟩, c'⟩
    intro j hj
    rw [recK_4] at hj
    rw [recW_4, recS_4]
    rcases (show j < 3 ∨ j = 3 by omega) with q | q
    · obtain ⟨kj, h1, h2⟩ := b5 (j + 1) (by omega)
      have e1 : recT ((o + 1) % 4) j = recT o (j + 1) := by unfold recT; omega
      have ns : recT o (j + 1) ≠ recT o 4 := by unfold recT; omega
      have e2 : recSA lz sz j = lz (j + 1) := by
        rcases (show j = 0 ∨ j = 1 ∨ j = 2 by omega) with rfl | rfl | rfl <;> rfl
      rw [e1, e2]
      refine ⟨kj, h1, h2.cong (fun z x y => r2 z (by unfold recT at *; omega) (by unfold recT at x; omega)) (fun z x y => r3 z (by unfold recT at *; omega)) (fun z hz => ?_)⟩
      show recA d wa (270 * j + z) = wa (270 * (j + 1) + z)
      unfold recA va_cpy
      rw [if_neg (by omega), if_pos (by omega)]
      congr 1
      omega
    · subst q
      have e1 : recT ((o + 1) % 4) 3 = recT o 4 := by unfold recT; omega
      rw [e1]
      refine ⟨k, a.2.1, ?_⟩
      have : recSA lz sz 3 = sz := rfl
      rw [this]
      refine new.cong (fun _ _ _ => rfl) (fun _ _ _ => rfl) (fun z hz => ?_)
      show recA d wa (270 * 3 + z) = d z
      unfold recA va_cpy
      rw [if_pos (by omega), show 0 + (270 * 3 + z - 810) = z by omega]
  · rw [if_neg (by omega)] at r4
    refine ⟨o, a', ⟨b1, recK_le b2, r4, r5, ?_⟩, c'⟩
    intro j hj
    rw [recK_lt e] at hj
    rw [recW_lt e, recS_lt e]
    rcases (show j < kp ∨ j = kp by omega) with q | q
    · obtain ⟨kj, h1, h2⟩ := b5 j q
      have ns : recT o j ≠ recT o kp := by unfold recT; omega
      have e2 : vp_updL lz kp sz j = lz j := by
        unfold vp_updL
        rw [if_neg (by omega)]
      rw [e2]
      refine ⟨kj, h1, h2.cong (fun z x y => r2 z (by unfold recT at *; omega) (by unfold recT at x; omega)) (fun z x y => r3 z (by unfold recT at *; omega)) (fun z hz => ?_)⟩
      show va_cpy d wa 0 (270 * kp) 270 (270 * j + z) = wa (270 * j + z)
      unfold va_cpy
      rw [if_neg (by omega)]
    · subst q
      have e2 : vp_updL lz j sz j = sz := by
        unfold vp_updL
        rw [if_pos rfl]
      rw [e2]
      refine ⟨k, a.2.1, new.cong (fun _ _ _ => rfl) (fun _ _ _ => rfl) (fun z hz => ?_)⟩
      show va_cpy d wa 0 (270 * j) 270 (270 * j + z) = d z
      unfold va_cpy
      rw [if_pos (by omega)]
      congr 1
      omega
/-- a contract within some small room -/
def RmOk (rm : Room) : Prop := rm.cells = 0 ∧ rm.slots = 0 ∧ rm.frames ≤ 8 ∧ rm.locals ≤ 150
def CX (l : Launch) (y : MethodName) (ws : List Cond) (E : Ev) (As : List Value) (I : SI) (L : SL) (Rs : Option Value → SI → SL → Prop) : Prop := ∃ rm, RmOk rm ∧ CS l y ws rm E As I L Rs
theorem CX.of {l : Launch} {y : MethodName} {ws : List Cond} {rm : Room} {E : Ev} {As : List Value} {I : SI} {L : SL} {Rs Rs' : Option Value → SI → SL → Prop} (h : CS l y ws rm E As I L Rs) (r : RmOk rm) (k : ∀ v I' L', Rs v I' L' → Rs' v I' L') : CX l y ws E As I L Rs' := ⟨rm, r, h.mono k⟩
/-- a call of the class, then one of the model: the same answer, and the relation again -/
def PR (l : Launch) (E : Ev) (y1 y2 : MethodName) (w1 w2 : List Cond) (As : List Value) (I : SI) (L : SL) : Prop := CX l y1 w1 E (.ref (E.2.2.2 0) :: As) I L (fun v I1 L1 => ∃ x, v = some (.int x) ∧ CX l y2 w2 E (.ref (E.2.2.2 161) :: As) I1 L1 (fun v2 I2 L2 => v2 = some (.int x) ∧ Rel I2 L2))
def PRL (l : Launch) (E : Ev) (y1 y2 : MethodName) (w1 w2 : List Cond) (As : List Value) (I : SI) (L : SL) : Prop := CX l y1 w1 E (.ref (E.2.2.2 0) :: As) I L (fun v I1 L1 => ∃ x, v = some (.long x) ∧ CX l y2 w2 E (.ref (E.2.2.2 161) :: As) I1 L1 (fun v2 I2 L2 => v2 = some (.long x) ∧ Rel I2 L2))
theorem LK {l : Launch} {E : Ev} {y1 y2 : MethodName} {w1 w2 : List Cond} {rm1 rm2 : Room} {As : List Value} {I : SI} {L : SL} {x y : Int32} (h : Rel I L) (a : CS l y1 w1 rm1 E (.ref (E.2.2.2 0) :: As) I L (fun vv I' L' => vv = some (.int x) ∧ I' = I ∧ L' = L)) (b : CS l y2 w2 rm2 E (.ref (E.2.2.2 161) :: As) I L (fun vv I' L' => vv = some (.int y) ∧ I' = I ∧ L' = L)) (r1 : RmOk rm1) (r2 : RmOk rm2) (e : x = y) : PR l E y1 y2 w1 w2 As I L := by
  subst e
  refine CX.of a r1 (fun v I1 L1 hh => ?_)
  obtain ⟨rfl, rfl, rfl⟩ := hh
  refine ⟨x, rfl, CX.of b r2 (fun v2 I2 L2 hh => ?_)⟩
  obtain ⟨rfl, rfl, rfl⟩ := hh
  exact ⟨rfl, h⟩
theorem LKL {l : Launch} {E : Ev} {y1 y2 : MethodName} {w1 w2 : List Cond} {rm1 rm2 : Room} {As : List Value} {I : SI} {L : SL} {x y : Int64} (h : Rel I L) (a : CS l y1 w1 rm1 E (.ref (E.2.2.2 0) :: As) I L (fun vv I' L' => vv = some (.long x) ∧ I' = I ∧ L' = L)) (b : CS l y2 w2 rm2 E (.ref (E.2.2.2 161) :: As) I L (fun vv I' L' => vv = some (.long y) ∧ I' = I ∧ L' = L)) (r1 : RmOk rm1) (r2 : RmOk rm2) (e : x = y) : PRL l E y1 y2 w1 w2 As I L := by
  subst e
  refine CX.of a r1 (fun v I1 L1 hh => ?_)
  obtain ⟨rfl, rfl, rfl⟩ := hh
  refine ⟨x, rfl, CX.of b r2 (fun v2 I2 L2 hh => ?_)⟩
  obtain ⟨rfl, rfl, rfl⟩ := hh
  exact ⟨rfl, h⟩
/-- a change: the class records and changes its bridge, the model records and changes its row -/
theorem CHG {l : Launch} {E : Ev} {y1 y2 : MethodName} {w1 w2 : List Cond} {rm1 rm2 : Room} {As : List Value} {I : SI} {L : SL} {x : Int32} {y : SI → SL → Int32} {k o kp n k' : Nat} {fI : SI → SL → SI} {fL : SI → SL → SL} {d' : Nat → Int32} {lx' : Nat → Int64}
    (hC : RelC I L (I 162) (L 161 3) (I 163) (L 164) (I 166) k o kp n) (h2 : I 161 2 = nI kp) (h8 : I 161 8 = nI n)
    (a : CS l y1 w1 rm1 E (.ref (E.2.2.2 0) :: As) I L (fun vv I' L' => ∃ I1 L1, RecP I L I1 L1 o kp ∧ vv = some (.int (y I1 L1)) ∧ I' = fI I1 L1 ∧ L' = fL I1 L1)) (r1 : RmOk rm1) (r2 : RmOk rm2)
    (f1 : ∀ I1 L1, RecP I L I1 L1 o kp → RelB (fI I1 L1) (fL I1 L1) d' (lx' 3) k' ∧ y I1 L1 = x ∧ (∀ z, 53 ≤ z → fI I1 L1 z = I1 z) ∧ (∀ z, 53 ≤ z → fL I1 L1 z = L1 z))
    (b : ∀ I1 L1, (∀ z, 161 ≤ z → I1 z = I z) → (∀ z, 161 ≤ z → L1 z = L z) → CS l y2 w2 rm2 E (.ref (E.2.2.2 161) :: As) I1 L1 (fun vv I' L' => vv = some (.int x) ∧ (∀ z, z < 161 → I' z = I1 z) ∧ (∀ z, z < 161 → L' z = L1 z) ∧ I' 162 = d' ∧ L' 161 = lx' ∧ I' 163 = recW (I 162) (I 163) kp ∧ L' 164 = recS (L 164) (L 161 3) kp ∧ I' 166 = I 166 ∧ I' 161 2 = nI (recK kp) ∧ I' 161 8 = nI n)) : PR l E y1 y2 w1 w2 As I L := by
  refine CX.of a r1 (fun v I1 L1 hh => ?_)
  obtain ⟨J, M, hr, rfl, rfl, rfl⟩ := hh
  obtain ⟨g1, g2, g3, g4⟩ := f1 J M hr
  obtain ⟨o', hC'⟩ := hC.rec hr
  have hC2 : RelC (fI J M) (fL J M) d' (lx' 3) (recW (I 162) (I 163) kp) (recS (L 164) (L 161 3) kp) (I 166) k' o' (recK kp) n := hC'.br g1 (fun z h1 _ => g3 z h1) (fun z h1 _ => g4 z h1)
  refine ⟨_, rfl, CX.of (b (fI J M) (fL J M) (fun z hz => (g3 z (by omega)).trans (hr.fr2 (by omega))) (fun z hz => (g4 z (by omega)).trans (hr.2.2.1 z (by unfold recT; omega)))) r2 (fun v2 I2 L2 hh => ?_)⟩
  obtain ⟨rfl, q1, q2, q3, q4, q5, q6, q7, q8, q9⟩ := hh
  refine ⟨by rw [g2], Rel.mk2 hC2 q1 q2 (fun z _ => by rw [q3]) (by rw [q4]) (fun z _ => by rw [q5]) (fun z _ => by rw [q6]) (fun z _ => by rw [q7]) q8 q9⟩
