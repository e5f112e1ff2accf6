/-! my own layer: the heap as numbered cells, the store as two functions (ints and longs of a cell's slots) -/
abbrev SI : Type := Nat → Nat → Int32
abbrev SL : Type := Nat → Nat → Int64
/-- classes and slots; classes of arrays (int, boolean, char, long, of bridges); the first new address; the cells' addresses -/
abbrev Ev : Type := va_G × (Nat → ClassId) × Nat × (Nat → Nat)
def e_ty (E : Ev) : List (ClassId × FieldType) := [(E.2.1 0, .int), (E.2.1 1, .boolean), (E.2.1 2, .char), (E.2.1 4, .object "BridgeLegs$Bridge")]
def e_A (E : Ev) : Nat → Prop := fun q => E.2.2.1 ≤ q
def sw (ad : Nat → Nat) (n : Nat) (w : Nat → va_E) : va_W := (List.range n).map (fun k => (ad k, w k))
def upw (w : Nat → va_E) (k : Nat) (e : va_E) : Nat → va_E := fun j => if j = k then e else w j
def up (I : SI) (k : Nat) (a : Nat → Int32) : SI := fun j => if j = k then a else I j
def upL (L : SL) (k : Nat) (a : Nat → Int64) : SL := fun j => if j = k then a else L j
theorem sw_len {ad : Nat → Nat} {n : Nat} {w : Nat → va_E} : (sw ad n w).length = n := by simp [sw]
theorem sw_get {ad : Nat → Nat} {n : Nat} {w : Nat → va_E} {k : Nat} (h : k < n) : (sw ad n w)[k]? = some (ad k, w k) := by
  unfold sw
  rw [List.getElem?_map, List.getElem?_range h]
  rfl
theorem sw_set {ad : Nat → Nat} {n : Nat} {w : Nat → va_E} {k : Nat} {e : va_E} (h : k < n) : (sw ad n w).set k (ad k, e) = sw ad n (upw w k e) := by
  apply List.ext_getElem?
  intro i
  by_cases hi : i < n
  · by_cases hk : k = i
    · subst hk
      rw [sw_get h, List.getElem?_set_self (by rw [sw_len]; exact h)]
      simp [upw]
    · rw [List.getElem?_set_ne hk, sw_get hi, sw_get hi]
      simp [upw, Ne.symm hk]
  · rw [List.getElem?_eq_none (by rw [List.length_set, sw_len]; omega), List.getElem?_eq_none (by rw [sw_len]; omega)]
theorem sw_push {ad : Nat → Nat} {n : Nat} {w : Nat → va_E} {q : Nat} {e : va_E} : sw ad n w ++ [(q, e)] = sw (fun j => if j = n then q else ad j) (n + 1) (upw w n e) := by
  apply List.ext_getElem?
  intro i
  by_cases hi : i < n
  · rw [List.getElem?_append_left (by rw [sw_len]; exact hi), sw_get hi, sw_get (by omega)]
    simp [upw, Nat.ne_of_lt hi]
  · by_cases hn : i = n
    · subst hn
      rw [List.getElem?_append_right (by rw [sw_len]; exact Nat.le_refl _), sw_len, Nat.sub_self, sw_get (by omega)]
      simp [upw]
    · rw [List.getElem?_eq_none (by rw [List.length_append, sw_len, List.length_singleton]; omega), List.getElem?_eq_none (by rw [sw_len]; omega)]
theorem sw_congr {ad ad' : Nat → Nat} {n : Nat} {w w' : Nat → va_E} (h : ∀ k, k < n → ad k = ad' k ∧ w k = w' k) : sw ad n w = sw ad' n w' := by
  apply List.ext_getElem?
  intro i
  by_cases hi : i < n
  · rw [sw_get hi, sw_get hi, (h i hi).1, (h i hi).2]
  · rw [List.getElem?_eq_none (by rw [sw_len]; omega), List.getElem?_eq_none (by rw [sw_len]; omega)]
/-- what a cell of a kind holds: 0 to 9 objects of the classes, 10 booleans, 11 the text, 12 longs, 13 the states, 14 + n: n ints -/
def cl (E : Ev) (kd i : Nat) (a : Nat → Int32) (b : Nat → Int64) : va_E := match kd with
  | 0 => .inr (0, [.ref (E.2.2.2 (i + 1)), .ref (E.2.2.2 (i + 10)), .ref (E.2.2.2 (i + 19)), .ref (E.2.2.2 (i + 21)), .int (a 4)])
  | 1 => .inr (1, [.int (a 0), .ref (E.2.2.2 (i + 1))])
  | 2 => .inr (2, [.ref (E.2.2.2 (i + 1)), .int (a 1), .int (a 2)])
  | 3 => .inr (3, [.ref (E.2.2.2 (i + 1)), .ref (E.2.2.2 (i + 2)), .ref (E.2.2.2 (i + 3)), .int (a 3)])
  | 4 => .inr (4, [.int (a 0), .int (a 1), .int (a 2), .int (a 3), .int (a 4), .int (a 5), .int (a 6)])
  | 5 => .inr (5, [.ref (E.2.2.2 (i + 1)), .ref (E.2.2.2 (i + 2)), .ref (E.2.2.2 (i + 3)), .ref (E.2.2.2 (i + 5)), .int (a 4), .int (a 5), .int (a 6), .int (a 7), .int (a 8), .int (a 9), .int (a 10), .int (a 11), .long (b 12)])
  | 6 => .inr (6, [.ref (E.2.2.2 (i + 1)), .ref (E.2.2.2 (i + 2)), .ref (E.2.2.2 (i + 3)), .ref (E.2.2.2 (i + 4))])
  | 7 => .inr (7, [.ref (E.2.2.2 (i + 1)), .int (a 1)])
  | 8 => .inr (8, [.ref (E.2.2.2 1), .ref (E.2.2.2 27), .ref (E.2.2.2 53), .ref (E.2.2.2 159)])
  | 10 => .inl (E.2.1 1, 3, .inl a)
  | 11 => .inl (E.2.1 2, 80, .inl a)
  | 13 => .inl (E.2.1 4, 4, .inr (.inr (.inr (.inr (fun j => some (E.2.2.2 (55 + 26 * j)))))))
  | n => .inl (E.2.1 0, n - 14, .inl a)
/-- the kinds of a bridge's cells, of a load's -/
def brk : List Nat := [0, 5, 4, 4, 1, 18, 3, 10, 17, 17, 5, 4, 4, 1, 18, 3, 10, 17, 17, 1, 20, 6, 46, 46, 46, 46]
def ldk : List Nat := [5, 4, 4, 1, 18, 3, 10, 17, 17]
def shl : List Nat := 8 :: (brk ++ (brk ++ (2 :: 13 :: (brk ++ (brk ++ (brk ++ (brk ++ [7, 11])))))))
def sh (k : Nat) : Nat := shl.getD k 99
theorem sh_lt {k kd : Nat} (h : sh k = kd) (hk : kd ≠ 99) : k < 161 := by
  rcases Nat.lt_or_ge k 161 with q | q
  · exact q
  · exfalso
    apply hk
    rw [← h]
    unfold sh
    rw [List.getD_eq_getElem?_getD, List.getElem?_eq_none (by exact q)]
    rfl
def IsB (B : Nat) : Prop := ∀ k, k < 26 → sh (B + k) = brk.getD k 99
def IsLd (B : Nat) : Prop := ∀ k, k < 9 → sh (B + k) = ldk.getD k 99
def cw (E : Ev) (I : SI) (L : SL) : Nat → va_E := fun k => cl E (sh k) k (I k) (L k)
theorem cw_up {E : Ev} {I : SI} {L : SL} {i kd : Nat} {a : Nat → Int32} (h : sh i = kd) : upw (cw E I L) i (cl E kd i a (L i)) = cw E (up I i a) L := by
  funext k
  unfold upw cw up
  by_cases hk : k = i
  · subst hk
    simp [h]
  · simp [hk]
theorem cw_upL {E : Ev} {I : SI} {L : SL} {i kd : Nat} {b : Nat → Int64} (h : sh i = kd) : upw (cw E I L) i (cl E kd i (I i) b) = cw E I (upL L i b) := by
  funext k
  unfold upw cw upL
  by_cases hk : k = i
  · subst hk
    simp [h]
  · simp [hk]
theorem up_up {I : SI} {i : Nat} {a b : Nat → Int32} : up (up I i a) i b = up I i b := by
  funext k
  unfold up
  by_cases hk : k = i <;> simp [hk]
theorem up_eq {I : SI} {i : Nat} {a : Nat → Int32} : up I i a i = a := by simp [up]
theorem up_ne {I : SI} {i j : Nat} {a : Nat → Int32} (h : j ≠ i) : up I i a j = I j := by simp [up, h]
theorem up_self {I : SI} {i : Nat} : up I i (I i) = I := by
  funext k
  unfold up
  by_cases hk : k = i <;> simp [hk]
theorem upL_upL {I : SL} {i : Nat} {a b : Nat → Int64} : upL (upL I i a) i b = upL I i b := by
  funext k
  unfold upL
  by_cases hk : k = i <;> simp [hk]
theorem upL_eq {I : SL} {i : Nat} {a : Nat → Int64} : upL I i a i = a := by simp [upL]
/-- the static tables -/
def e_nm : Nat → String := fun k => match k with
  | 0 => "DIAL_LOWEST"
  | 1 => "DIAL_HIGHEST"
  | _ => "DIAL_INITIAL"
def e_lo : List Int32 := [0, 0, 1, 2, 1, 0, 1, 0, 1, 0]
def e_hi : List Int32 := [20, 50, 1000000, 100, 1000000000, 1000000, 1000, 100, 900000, 900000]
def e_in : List Int32 := [2, 3, 5000, 20, 1000000, 100, 50, 10, 1000, 100]
def e_tab (i j : Nat) : Int32 := (match i with
  | 0 => e_lo
  | 1 => e_hi
  | _ => e_in).getD j 0
def e_T (E : Ev) (U : State) (H : Heap) : Prop := ∀ i, i < 3 → ∃ t, va_Z "BridgeLegs" (e_nm i) "[I" (.ref t) (e_A E) U H ∧ va_T .int t 10 (fun j => .int (e_tab i j)) (e_A E) U H
/-- links to members of nest mates -/
def e_nF : List (String × Nat × String × String × String) := [
  ("BridgeLegs", 74, "BridgeLegs$Leg", "command", "I"),
  ("BridgeLegs$Load", 89, "BridgeLegs$Leg", "command", "I"),
  ("BridgeLegs$Scope", 46, "BridgeLegs$Leg", "state", "I"),
  ("BridgeLegs", 153, "BridgeLegs$Leg", "state", "I"),
  ("BridgeLegs$Load", 140, "BridgeLegs$Leg", "state", "I"),
  ("BridgeLegs", 159, "BridgeLegs$Leg", "offRun", "I"),
  ("BridgeLegs$Load", 83, "BridgeLegs$Leg", "switchings", "I"),
  ("BridgeLegs", 162, "BridgeLegs$Leg", "switchings", "I"),
  ("BridgeLegs", 164, "BridgeLegs$Leg", "highSlots", "I"),
  ("BridgeLegs", 167, "BridgeLegs$Leg", "lowSlots", "I"),
  ("BridgeLegs", 170, "BridgeLegs$Leg", "offSlots", "I"),
  ("BridgeLegs$Dials", 17, "BridgeLegs", "DIAL_INITIAL", "[I"),
  ("BridgeLegs$Load", 86, "BridgeLegs$Latches", "number", "I"),
  ("BridgeLegs", 115, "BridgeLegs$Latches", "number", "I"),
  ("BridgeLegs$Scope", 42, "BridgeLegs$Load", "first", "LBridgeLegs$Leg;"),
  ("BridgeLegs$Bridge", 55, "BridgeLegs$Load", "first", "LBridgeLegs$Leg;"),
  ("BridgeLegs$Scope", 51, "BridgeLegs$Load", "second", "LBridgeLegs$Leg;"),
  ("BridgeLegs$Bridge", 59, "BridgeLegs$Load", "second", "LBridgeLegs$Leg;"),
  ("BridgeLegs", 60, "BridgeLegs$Load", "dials", "LBridgeLegs$Dials;"),
  ("BridgeLegs", 105, "BridgeLegs$Load", "latches", "LBridgeLegs$Latches;"),
  ("BridgeLegs$Scope", 36, "BridgeLegs$Load", "current", "I"),
  ("BridgeLegs", 173, "BridgeLegs$Load", "current", "I"),
  ("BridgeLegs", 176, "BridgeLegs$Load", "heat", "I"),
  ("BridgeLegs", 179, "BridgeLegs$Load", "chopping", "Z"),
  ("BridgeLegs$Scope", 54, "BridgeLegs$Load", "held", "Z"),
  ("BridgeLegs", 183, "BridgeLegs$Load", "held", "Z"),
  ("BridgeLegs", 186, "BridgeLegs$Load", "blanked", "I"),
  ("BridgeLegs", 189, "BridgeLegs$Load", "drive", "I"),
  ("BridgeLegs", 193, "BridgeLegs$Load", "drivenRun", "I"),
  ("BridgeLegs", 141, "BridgeLegs$Load", "heldSlots", "I"),
  ("BridgeLegs", 147, "BridgeLegs$Load", "sizes", "J"),
  ("BridgeLegs", 127, "BridgeLegs$Bridge", "load0", "LBridgeLegs$Load;"),
  ("BridgeLegs", 131, "BridgeLegs$Bridge", "load1", "LBridgeLegs$Load;"),
  ("BridgeLegs", 33, "BridgeLegs$Bridge", "dials", "LBridgeLegs$Dials;"),
  ("BridgeLegs", 208, "BridgeLegs$Bridge", "scope", "LBridgeLegs$Scope;"),
  ("BridgeLegs", 89, "BridgeLegs$Bridge", "slot", "I"),
  ("BridgeLegs", 118, "BridgeLegs$History", "kept", "I"),
  ("BridgeLegs", 144, "BridgeLegs$Text", "length", "I"),
  ("BridgeLegs$Dials", 32, "BridgeLegs", "DIAL_LOWEST", "[I"),
  ("BridgeLegs$Dials", 35, "BridgeLegs", "DIAL_HIGHEST", "[I")]
def e_nM : List (String × Nat × MethodName) := [
  ("BridgeLegs$Load", 11, ⟨"BridgeLegs$Leg", "<init>", "()V"⟩),
  ("BridgeLegs$Dials", 38, ⟨"BridgeLegs", "isWithin", "(III)Z"⟩),
  ("BridgeLegs$Latches", 26, ⟨"BridgeLegs", "isFault", "(I)Z"⟩),
  ("BridgeLegs$Scope", 58, ⟨"BridgeLegs", "bit", "(Z)I"⟩)]
def e_N (U : State) : Prop := (∀ q ∈ e_nF, va_Nw (.fieldLinkNest q.1 q.2.1 q.2.2.1 q.2.2.2.1 q.2.2.2.2 "BridgeLegs") U) ∧ ∀ q ∈ e_nM, va_Nw (.methodLinkNest q.1 q.2.1 q.2.2 "BridgeLegs") U
/-- what is known of the start of a method -/
def FX (E : Ev) (U : State) : Prop := va_K E.1 vwCl (e_ty E) U ∧ e_T E U U.heap ∧ e_N U ∧ E.2.2.1 ≤ U.heap.size
def GW (E : Ev) (n : Nat) (w : Nat → va_E) (H : Heap) : Prop := va_P E.1 vwCl (sw E.2.2.2 n w) H ∧ va_D (e_A E) (sw E.2.2.2 n w)
def GS (E : Ev) (I : SI) (L : SL) (s : State) (H : Heap) (locs : List Loc) : Prop := GW E 161 (cw E I L) H ∧ va_S (e_A E) s.heap H locs
theorem GS.same {E : Ev} {I I' : SI} {L L' : SL} {s : State} {H : Heap} {locs : List Loc} (G : GS E I L s H locs) (h1 : I = I') (h2 : L = L') : GS E I' L' s H locs := by
  subst h1
  subst h2
  exact G
theorem FX.warm {E : Ev} {s U : State} {H : Heap} {locs : List Loc} (h : FX E s) (hW : s.WarmedH U.vm) (hH : U.heap = H) (hS : va_S (e_A E) s.heap H locs) : FX E U := by
  obtain ⟨h1, h2, h3, h4⟩ := h
  subst hH
  refine ⟨va_K.moved hW.alike h1, fun i hi => ?_, ⟨fun q hq => va_Nw.warmF hW (h3.1 q hq), fun q hq => va_Nw.warmM hW (h3.2 q hq)⟩, Nat.le_trans h4 hS.1⟩
  obtain ⟨t, hz, ht⟩ := h2 i hi
  exact ⟨t, (hz.kept hS.2.1).moved hW.alike, (ht.kept hS.2.1).moved hW.alike⟩
theorem FX.blind {E : Ev} {U : State} {g : JFrame} {mk : MethodId} {a : Array Value} (h : FX E U) : FX E (U.calling g mk a) := by
  obtain ⟨h1, h2, h3, h4⟩ := h
  refine ⟨va_K.moved (u := U) (U := U.calling g mk a) (Vm.Alike.refl U.vm) h1, fun i hi => ?_, ⟨fun q hq => va_Nw.same (u := U) (U := U.calling g mk a) rfl rfl (h3.1 q hq), fun q hq => va_Nw.same (u := U) (U := U.calling g mk a) rfl rfl (h3.2 q hq)⟩, h4⟩
  obtain ⟨t, hz, ht⟩ := h2 i hi
  exact ⟨t, va_Z.moved (u := U) (U := U.calling g mk a) (Vm.Alike.refl U.vm) hz, va_T.moved (u := U) (U := U.calling g mk a) (Vm.Alike.refl U.vm) ht⟩
/-- a method's start -/
def e_Pre (E : Ev) (n : Nat) (w : Nat → va_E) (U : State) : Prop := FX E U ∧ GW E n w U.heap
theorem e_blind {E : Ev} {n : Nat} {w : Nat → va_E} {As : List Value} : FrameBlind (va_Pc As (e_Pre E n w)) := fun _ _ _ _ q => ⟨q.1, q.2.1.blind, q.2.2⟩
/-- a method's end -/
def e_Qs (E : Ev) (Rs : Option Value → SI → SL → Prop) : Array Value → State → Outcome → State → Prop := fun _ st o t => (∃ (v : Option Value) (I : SI) (L : SL), o = .returned v ∧ Rs v I L ∧ GW E 161 (cw E I L) t.heap) ∧ va_F (e_A E) st t
/-- a method over the store: its contract -/
def CS (l : Launch) (y : MethodName) (ws : List Cond) (rm : Room) (E : Ev) (As : List Value) (I : SI) (L : SL) (Rs : Option Value → SI → SL → Prop) : Prop :=
  Met l y ws rm (va_Pc As (e_Pre E 161 (cw E I L))) (e_Qs E Rs) 0 0 (e_A E)
section ROWS
variable {p : Program} {l : Launch} {e : Env} {R : Room} {s : State} {m : MethodId} {args : Array Value} {below : List Frame} {meth : Method} {c : Code} {H : Heap} {locs : List Loc} {cells slots : Nat} {Q : State → Prop}
variable {cc : ByteArray} {pc nL : Nat} {ls : Array Slot} {rest : List Value} {E : Ev} {I : SI} {L : SL} {Ts : List Cond} {own : String}
theorem CS.of {y : MethodName} {ws ws' : List Cond} {rm : Room} {As : List Value} {Rs : Option Value → SI → SL → Prop} {maxL : Nat} {ret : Option FieldType} (hy : plainName y.cls = true) (hw : ws = Cond.code y cc maxL ret :: ws') (hlen : (lg_sl As).length ≤ maxL)
    (body : ∀ (p : Program) (e : Env) (s : State) (m : MethodId) (below : List Frame) (meth : Method) (c : Code) (ls : Array Slot), CallFix p m c cc maxL s As.toArray ws y.cls → meth.sig.returnType = ret → meth.locks = false → FX E s → GS E I L s s.heap [] → lv_has ls maxL (lv_args 0 As) →
      W p l e rm s m As.toArray below meth c s.heap [] 0 0 (MQ below (e_Qs E Rs) As.toArray s 0 0 (e_A E)) (F0 m 0 ls [])) : CS l y ws rm E As I L Rs := by
  refine Met.ofW (cc := cc) (maxL := maxL) (ret := ret) hy hw ?_
  intro p e s m args below meth c s₁ B hml hv
  obtain ⟨rfl, hX, hG⟩ := hv
  have hl := lv_entry As (n := maxL) hlen
  rw [lg_entry_eq]
  exact body p e s m below meth c _ ⟨B.exec, B.bytes, hml, findClass_of_methodNamed B.named, atoms_spec (ws := ws) B.pre⟩ B.returns B.notSynchronized hX ⟨hG, va_S.rf⟩ hl
theorem s_get (S : CallFix p m c cc nL s args Ts own) (hX : FX E s) (G : GS E I L s H locs) {i kd ci N index : Nat} {C ref : String} {T : u_T} {fs : List Value} {v : Value} {a : Nat → Int32} (k : Nat) (hsh : sh i = kd) (ha : I i = a) (hcl : cl E kd i a (L i) = .inr (ci, fs)) (hv : fs[k]? = some v) (hkd : kd ≠ 99) (hc : vwCl[ci]? = some (C, T, N)) (hin : ∀ w ∈ u_ws C T N, w ∈ Ts) (hk : k < N) (hlink : Cond.fieldLink own index ref (T k).2.1 (T k).2.2.1 ∈ Ts) (hsame : ∀ x, s.fieldFound? (T k).1 (T k).2.1 (T k).2.2.1 = some x → s.fieldFound? ref (T k).2.1 (T k).2.2.1 = some x) (hdg : decode cc pc = .ok (.getfield index, 3))
    (kk : W p l e R s m args below meth c H locs cells slots Q (F0 m (pc + 3) ls (v :: rest))) : W p l e R s m args below meth c H locs cells slots Q (F0 m pc ls (.ref (E.2.2.2 i) :: rest)) := by
  obtain ⟨hx, hb, hml, hown, hts⟩ := S
  refine va_get (D := E.1) (ci := ci) (v := v) (C := C) (T := T) (N := N) (fs := fs) hx hb hts hin hown hX.1 G.1.1 i ?_ hc k hk (hts _ hlink) hsame hv hdg kk
  rw [sw_get (sh_lt hsh hkd)]
  unfold cw
  rw [hsh, ha, hcl]
theorem s_getN (S : CallFix p m c cc nL s args Ts own) (hX : FX E s) (G : GS E I L s H locs) {i kd ci N index : Nat} {C ref : String} {T : u_T} {fs : List Value} {v : Value} {a : Nat → Int32} (k : Nat) (hsh : sh i = kd) (ha : I i = a) (hcl : cl E kd i a (L i) = .inr (ci, fs)) (hv : fs[k]? = some v) (hkd : kd ≠ 99) (hc : vwCl[ci]? = some (C, T, N)) (hin : ∀ w ∈ u_ws C T N, w ∈ Ts) (hk : k < N) (hlink : (own, index, ref, (T k).2.1, (T k).2.2.1) ∈ e_nF) (hsame : ∀ x, s.fieldFound? (T k).1 (T k).2.1 (T k).2.2.1 = some x → s.fieldFound? ref (T k).2.1 (T k).2.2.1 = some x) (hdg : decode cc pc = .ok (.getfield index, 3))
    (kk : W p l e R s m args below meth c H locs cells slots Q (F0 m (pc + 3) ls (v :: rest))) : W p l e R s m args below meth c H locs cells slots Q (F0 m pc ls (.ref (E.2.2.2 i) :: rest)) := by
  obtain ⟨hx, hb, hml, hown, hts⟩ := S
  refine va_getN (D := E.1) (ci := ci) (v := v) (C := C) (T := T) (N := N) (fs := fs) (host := "BridgeLegs") hx hb hts hin hown hX.1 G.1.1 i ?_ hc k hk (va_Nw.use rfl (hX.2.2.1.1 _ hlink)) hsame hv hdg kk
  rw [sw_get (sh_lt hsh hkd)]
  unfold cw
  rw [hsh, ha, hcl]
end ROWS
