/-! constructors: the heap grows; ad: the cells' addresses so far -/
theorem upw_eq {w : Nat → va_E} {k : Nat} {e : va_E} : upw w k e k = e := if_pos rfl
theorem upw_ne {w : Nat → va_E} {k j : Nat} {e : va_E} (h : j ≠ k) : upw w k e j = w j := if_neg h
def GA (E : Ev) (ad : Nat → Nat) (n : Nat) (w : Nat → va_E) (H : Heap) : Prop := va_P E.1 vwCl (sw ad n w) H ∧ va_D (e_A E) (sw ad n w)
def CG (E : Ev) (ad : Nat → Nat) (n : Nat) (w : Nat → va_E) (s : State) (H : Heap) (locs : List Loc) : Prop := GA E ad n w H ∧ va_S (e_A E) s.heap H locs
def FXA (E : Ev) (U : State) : Prop := FX E U ∧ va_AO "BridgeLegs$Bridge" U
theorem FXA.warm {E : Ev} {s U : State} {H : Heap} {locs : List Loc} (h : FXA E s) (hW : s.WarmedH U.vm) (hH : U.heap = H) (hS : va_S (e_A E) s.heap H locs) : FXA E U := ⟨h.1.warm hW hH hS, va_AO.moved hW.alike h.2⟩
def e_PreC (E : Ev) (ad : Nat → Nat) (n : Nat) (w : Nat → va_E) (U : State) : Prop := FXA E U ∧ GA E ad n w U.heap
theorem e_blindC {E : Ev} {ad : Nat → Nat} {n : Nat} {w : Nat → va_E} {As : List Value} : FrameBlind (va_Pc As (e_PreC E ad n w)) := fun _ U g mk q => ⟨q.1, ⟨q.2.1.1.blind, va_AO.moved (u := U) (U := U.calling g mk _) (Vm.Alike.refl U.vm) q.2.1.2⟩, q.2.2⟩
/-- behind a constructor: n' cells, those ahead of n as they were but for what ok says -/
def e_QC (E : Ev) (ad : Nat → Nat) (n n' : Nat) (ok : (Nat → Nat) → (Nat → va_E) → Prop) : Array Value → State → Outcome → State → Prop := fun _ st o t => (o = .returned none ∧ ∃ ad' w', (∀ k, k < n → ad' k = ad k) ∧ ok ad' w' ∧ GA E ad' n' w' t.heap) ∧ va_F (e_A E) st t
def CN (l : Launch) (y : MethodName) (ws : List Cond) (rm : Room) (E : Ev) (As : List Value) (ad : Nat → Nat) (n : Nat) (w : Nat → va_E) (n' : Nat) (ok : (Nat → Nat) → (Nat → va_E) → Prop) (mc ms : Nat) : Prop :=
  Met l y ws rm (va_Pc As (e_PreC E ad n w)) (e_QC E ad n n' ok) mc ms (e_A E)
section CROWS
variable {p : Program} {l : Launch} {e : Env} {R : Room} {s : State} {m : MethodId} {args : Array Value} {below : List Frame} {meth : Method} {c : Code} {H : Heap} {locs : List Loc} {cells slots : Nat} {Q : State → Prop}
variable {cc : ByteArray} {pc nL : Nat} {ls : Array Slot} {rest : List Value} {E : Ev} {ad : Nat → Nat} {n : Nat} {w : Nat → va_E} {Ts : List Cond} {own : String}
theorem CN.of {y : MethodName} {ws ws' : List Cond} {rm : Room} {As : List Value} {n' : Nat} {ok : (Nat → Nat) → (Nat → va_E) → Prop} {mc ms : Nat} {maxL : Nat} (hy : plainName y.cls = true) (hw : ws = Cond.code y cc maxL none :: ws') (hi : y.name = "<init>") (hlen : (lg_sl As).length ≤ maxL)
    (body : ∀ (p : Program) (e : Env) (s : State) (m : MethodId) (below : List Frame) (meth : Method) (c : Code) (ls : Array Slot), CallFix p m c cc maxL s As.toArray ws y.cls → meth.sig.returnType = none → meth.locks = false → meth.name = "<init>" → FXA E s → CG E ad n w s s.heap [] → lv_has ls maxL (lv_args 0 As) →
      W p l e rm s m As.toArray below meth c s.heap [] 0 0 (MQ below (e_QC E ad n n' ok) As.toArray s mc ms (e_A E)) (F0 m 0 ls [])) : CN l y ws rm E As ad n w n' ok mc ms := by
  refine Met.ofW (cc := cc) (maxL := maxL) (ret := none) hy hw ?_
  intro p e s m args below meth c s₁ B hml hv
  obtain ⟨rfl, hX, hG⟩ := hv
  have hl := lv_entry As (n := maxL) hlen
  rw [lg_entry_eq]
  exact body p e s m below meth c _ ⟨B.exec, B.bytes, hml, findClass_of_methodNamed B.named, atoms_spec (ws := ws) B.pre⟩ B.returns B.notSynchronized ((name_of_methodNamed B.named B.method).1.trans hi) hX ⟨hG, va_S.rf⟩ hl
theorem cg_push {q : Nat} {ee : va_E} {H1 : Heap} (h : va_P E.1 vwCl (sw ad n w ++ [(q, ee)]) H1) (h2 : va_D (e_A E) (sw ad n w ++ [(q, ee)])) : GA E (fun j => if j = n then q else ad j) (n + 1) (upw w n ee) H1 := by
  unfold GA
  rw [← sw_push]
  exact ⟨h, h2⟩
theorem cg_hA (hX : FXA E s) : ∀ q : Nat, s.heap.size ≤ q → e_A E q := fun _ h => Nat.le_trans hX.1.2.2.2 h
theorem c_new (S : CallFix p m c cc nL s args Ts own) (hX : FXA E s) (G : CG E ad n w s H locs) {C : String} {T : u_T} {N ci index : Nat} (ty : Nat → FieldType) {fs : List Value} (hin : ∀ w ∈ u_ws C T N, w ∈ Ts) (hty : ∀ k, k < N → parseFieldDescriptor (T k).2.2.1 = some (ty k)) (hcl : Cond.classLink own index C ∈ Ts) (hinst : Cond.instantiable C N ∈ Ts) (hini : Cond.initialized C ∈ Ts) (hc : vwCl[ci]? = some (C, T, N)) (hfs : ∀ j, j < N → defaultValue (ty j) = vp_V fs j) (hcells : cells + 1 ≤ R.cells) (hslots : slots + N ≤ R.slots) (hdg : decode cc pc = .ok (.new index, 3))
    (kk : ∀ (q : Nat) (ad' : Nat → Nat) (H1 : Heap), ad' n = q → (∀ k, k < n → ad' k = ad k) → CG E ad' (n + 1) (upw w n (.inr (ci, fs))) s H1 locs → W p l e R s m args below meth c H1 locs (cells + 1) (slots + N) Q (F0 m (pc + 3) ls (.ref q :: rest))) : W p l e R s m args below meth c H locs cells slots Q (F0 m pc ls rest) := by
  obtain ⟨hx, hb, hml, hown, hts⟩ := S
  obtain ⟨⟨hP, hD⟩, hS⟩ := G
  refine va_new (D := E.1) (ci := ci) (C := C) (T := T) (N := N) (fs := fs) hx hb hts hin ty hty hown (hts _ hcl) (hts _ hinst) (hts _ hini) hX.1.1 hP hD hS (cg_hA hX) hc hfs hcells hslots hdg (fun q H1 hP1 hD1 hS1 => ?_)
  exact kk q (fun j => if j = n then q else ad j) H1 (if_pos rfl) (fun k hk => if_neg (Nat.ne_of_lt hk)) ⟨cg_push hP1 hD1, hS1⟩
theorem ra_eq {U : State} {c1 c2 : ClassId} {ty : FieldType} (h1 : va_RA U c1 ty) (h2 : va_RA U c2 ty) : c1 = c2 := by
  cases ty
  all_goals first
    | exact Option.some.inj (h1.symm.trans h2)
    | (obtain ⟨_, _, _, _, _, a⟩ := h1
       obtain ⟨_, _, _, _, _, b⟩ := h2
       exact Option.some.inj (a.symm.trans b))
theorem c_newa (S : CallFix p m c cc nL s args Ts own) (hX : FXA E s) (G : CG E ad n w s H locs) {atype : ArrayType} {ty : FieldType} (t : Nat) {a0 : vp_A} {x : Int32} {N : Nat} (harr : Cond.arrayClass (newarray.typeOf atype) ∈ Ts) (hty : newarray.typeOf atype = ty) (ht : (e_ty E)[t]? = some (E.2.1 t, ty)) (ha : ∀ cA : ClassId, vp_cell cA a0 = arrV cA N (fun _ => defaultValue ty)) (hn : ¬ x < 0) (hN : x.toNatClampNeg = N) (hbytes : N * componentBytes ty ≤ 536870912) (hcells : cells + 1 ≤ R.cells) (hslots : slots + N ≤ R.slots) (hdg : decode cc pc = .ok (.newarray atype, 2))
    (kk : ∀ (q : Nat) (ad' : Nat → Nat) (H1 : Heap), ad' n = q → (∀ k, k < n → ad' k = ad k) → CG E ad' (n + 1) (upw w n (.inl (E.2.1 t, a0))) s H1 locs → W p l e R s m args below meth c H1 locs (cells + 1) (slots + N) Q (F0 m (pc + 2) ls (.ref q :: rest))) : W p l e R s m args below meth c H locs cells slots Q (F0 m pc ls (.int x :: rest)) := by
  obtain ⟨hx, hb, hml, hown, hts⟩ := S
  obtain ⟨⟨hP, hD⟩, hS⟩ := G
  refine va_newa (atype := atype) hx hb (hts _ harr) hty hX.1.1 hP hD hS (cg_hA hX) ha hn hN hbytes hcells hslots hdg (fun q cA H1 hK1 hP1 hD1 hS1 => ?_)
  have e1 : cA = E.2.1 t := ra_eq (hK1.2 4 (cA, ty) rfl).2 (hX.1.1.2 t _ ht).2
  subst e1
  exact kk q (fun j => if j = n then q else ad j) H1 (if_pos rfl) (fun k hk => if_neg (Nat.ne_of_lt hk)) ⟨cg_push hP1 hD1, hS1⟩
theorem c_anewa (S : CallFix p m c cc nL s args Ts own) (hX : FXA E s) (G : CG E ad n w s H locs) {index : Nat} {x : Int32} {N : Nat} (hcl : Cond.classLink own index "BridgeLegs$Bridge" ∈ Ts) (hn : ¬ x < 0) (hN : x.toNatClampNeg = N) (hbytes : N * 4 ≤ 536870912) (hcells : cells + 1 ≤ R.cells) (hslots : slots + N ≤ R.slots) (hdg : decode cc pc = .ok (.anewarray index, 3))
    (kk : ∀ (q : Nat) (ad' : Nat → Nat) (H1 : Heap), ad' n = q → (∀ k, k < n → ad' k = ad k) → CG E ad' (n + 1) (upw w n (.inl (E.2.1 4, N, .inr (.inr (.inr (.inr (fun _ => none))))))) s H1 locs → W p l e R s m args below meth c H1 locs (cells + 1) (slots + N) Q (F0 m (pc + 3) ls (.ref q :: rest))) : W p l e R s m args below meth c H locs cells slots Q (F0 m pc ls (.int x :: rest)) := by
  obtain ⟨hx, hb, hml, hown, hts⟩ := S
  obtain ⟨⟨hP, hD⟩, hS⟩ := G
  refine va_newq hx hb hown (hts _ hcl) hX.2 hX.1.1 hP hD hS (cg_hA hX) hn hN hbytes hcells hslots hdg (fun q cA H1 hK1 hP1 hD1 hS1 => ?_)
  have e1 : cA = E.2.1 4 := ra_eq (hK1.2 4 (cA, .object "BridgeLegs$Bridge") rfl).2 (hX.1.1.2 3 _ rfl).2
  subst e1
  exact kk q (fun j => if j = n then q else ad j) H1 (if_pos rfl) (fun k hk => if_neg (Nat.ne_of_lt hk)) ⟨cg_push hP1 hD1, hS1⟩
theorem cg_at {i h0 : Nat} {ee : va_E} (ha : ad i = h0) (hi : i < n) (hw : w i = ee) : (sw ad n w)[i]? = some (h0, ee) := by
  rw [sw_get hi, ha, hw]
theorem c_get (S : CallFix p m c cc nL s args Ts own) (hX : FXA E s) (G : CG E ad n w s H locs) {i h0 ci N index : Nat} {C ref : String} {T : u_T} {fs : List Value} {v : Value} (k : Nat) (ha : ad i = h0) (hi : i < n) (hw : w i = .inr (ci, fs)) (hv : fs[k]? = some v) (hc : vwCl[ci]? = some (C, T, N)) (hin : ∀ w ∈ u_ws C T N, w ∈ Ts) (hk : k < N) (hlink : Cond.fieldLink own index ref (T k).2.1 (T k).2.2.1 ∈ Ts) (hsame : ∀ x, s.fieldFound? (T k).1 (T k).2.1 (T k).2.2.1 = some x → s.fieldFound? ref (T k).2.1 (T k).2.2.1 = some x) (hdg : decode cc pc = .ok (.getfield index, 3))
    (kk : W p l e R s m args below meth c H locs cells slots Q (F0 m (pc + 3) ls (v :: rest))) : W p l e R s m args below meth c H locs cells slots Q (F0 m pc ls (.ref h0 :: rest)) := by
  obtain ⟨hx, hb, hml, hown, hts⟩ := S
  exact va_get (D := E.1) (ci := ci) (v := v) (C := C) (T := T) (N := N) (fs := fs) hx hb hts hin hown hX.1.1 G.1.1 i (cg_at ha hi hw) hc k hk (hts _ hlink) hsame hv hdg kk
theorem cg_set {i h0 : Nat} {ee : va_E} {H1 : Heap} {locs1 : List Loc} (ha : ad i = h0) (hi : i < n) (hP : va_P E.1 vwCl ((sw ad n w).set i (h0, ee)) H1) (hD : va_D (e_A E) ((sw ad n w).set i (h0, ee))) (hS : va_S (e_A E) s.heap H1 locs1) : CG E ad n (upw w i ee) s H1 locs1 := by
  subst ha
  rw [sw_set hi] at hP hD
  exact ⟨⟨hP, hD⟩, hS⟩
theorem c_put (S : CallFix p m c cc nL s args Ts own) (hX : FXA E s) (G : CG E ad n w s H locs) {i h0 ci N index : Nat} {C ref : String} {T : u_T} {ty0 : Nat → FieldType} {ty : FieldType} {fs : List Value} {v : Value} (k : Nat) (ha : ad i = h0) (hi : i < n) (hw : w i = .inr (ci, fs)) (hc : vwCl[ci]? = some (C, T, N)) (hin : ∀ w ∈ u_ws C T N, w ∈ Ts) (hty : ∀ k, k < N → parseFieldDescriptor (T k).2.2.1 = some (ty0 k)) (hnm : ∀ a, a < N → ∀ b, b < N → a ≠ b → (T a).2.1 ≠ (T b).2.1) (hk : k < N) (hlink : Cond.fieldLink own index ref (T k).2.1 (T k).2.2.1 ∈ Ts) (hsame : ∀ x, s.fieldFound? (T k).1 (T k).2.1 (T k).2.2.1 = some x → s.fieldFound? ref (T k).2.1 (T k).2.2.1 = some x) (hfin : (T k).2.2.2 = false) (hd : parseFieldDescriptor (T k).2.2.1 = some ty) (hn : narrow ty v = v) (hfit : fits ty v = true) (hl : k < fs.length) (hdg : decode cc pc = .ok (.putfield index, 3))
    (kk : ∀ (H1 : Heap) (locs1 : List Loc), CG E ad n (upw w i (.inr (ci, fs.set k v))) s H1 locs1 → W p l e R s m args below meth c H1 locs1 cells slots Q (F0 m (pc + 3) ls rest)) : W p l e R s m args below meth c H locs cells slots Q (F0 m pc ls (v :: .ref h0 :: rest)) := by
  obtain ⟨hx, hb, hml, hown, hts⟩ := S
  exact va_put (D := E.1) (ci := ci) (v := v) (ty := ty) (C := C) (T := T) (N := N) (fs := fs) hx hb hts hin ty0 hty hnm hown hX.1.1 G.1.1 G.1.2 G.2 i (cg_at ha hi hw) hc k hk (hts _ hlink) hsame hfin hd hn hfit hl hdg (fun H1 locs1 hP hD hS => kk H1 locs1 (cg_set ha hi hP hD hS))
theorem c_putF (S : CallFix p m c cc nL s args Ts own) (hX : FXA E s) (G : CG E ad n w s H locs) {i h0 ci N index : Nat} {C ref : String} {T : u_T} {ty0 : Nat → FieldType} {ty : FieldType} {fs : List Value} {v : Value} (k : Nat) (ha : ad i = h0) (hi : i < n) (hw : w i = .inr (ci, fs)) (hc : vwCl[ci]? = some (C, T, N)) (hin : ∀ w ∈ u_ws C T N, w ∈ Ts) (hty : ∀ k, k < N → parseFieldDescriptor (T k).2.2.1 = some (ty0 k)) (hnm : ∀ a, a < N → ∀ b, b < N → a ≠ b → (T a).2.1 ≠ (T b).2.1) (hk : k < N) (hlink : Cond.fieldLink own index ref (T k).2.1 (T k).2.2.1 ∈ Ts) (hsame : ∀ x, s.fieldFound? (T k).1 (T k).2.1 (T k).2.2.1 = some x → s.fieldFound? ref (T k).2.1 (T k).2.2.1 = some x) (hfin : (T k).2.2.2 = true) (hin2 : meth.name = "<init>") (hdecl : (T k).1 = own) (hd : parseFieldDescriptor (T k).2.2.1 = some ty) (hn : narrow ty v = v) (hfit : fits ty v = true) (hl : k < fs.length) (hdg : decode cc pc = .ok (.putfield index, 3))
    (kk : ∀ (H1 : Heap) (locs1 : List Loc), CG E ad n (upw w i (.inr (ci, fs.set k v))) s H1 locs1 → W p l e R s m args below meth c H1 locs1 cells slots Q (F0 m (pc + 3) ls rest)) : W p l e R s m args below meth c H locs cells slots Q (F0 m pc ls (v :: .ref h0 :: rest)) := by
  obtain ⟨hx, hb, hml, hown, hts⟩ := S
  exact va_putF (D := E.1) (ci := ci) (v := v) (ty := ty) (C := C) (T := T) (N := N) (fs := fs) hx hb hts hin ty0 hty hnm hown hX.1.1 G.1.1 G.1.2 G.2 i (cg_at ha hi hw) hc k hk (hts _ hlink) hsame hfin hin2 hdecl hd hn hfit hl hdg (fun H1 locs1 hP hD hS => kk H1 locs1 (cg_set ha hi hP hD hS))
theorem c_iast (S : CallFix p m c cc nL s args Ts own) (hX : FXA E s) (G : CG E ad n w s H locs) {i h0 N : Nat} {f : Nat → Int32} {j x : Int32} (ha : ad i = h0) (hi : i < n) (hw : w i = .inl (E.2.1 0, N, .inl f)) (hin : vp_in j N) (hdg : decode cc pc = .ok (.iastore, 1))
    (kk : ∀ (H1 : Heap) (locs1 : List Loc), CG E ad n (upw w i (.inl (E.2.1 0, N, .inl (upd f j.toNatClampNeg x)))) s H1 locs1 → W p l e R s m args below meth c H1 locs1 cells slots Q (F0 m (pc + 1) ls rest)) : W p l e R s m args below meth c H locs cells slots Q (F0 m pc ls (.int x :: .int j :: .ref h0 :: rest)) :=
  va_iast S.1 S.2.1 hX.1.1 G.1.1 G.1.2 G.2 i 0 (f := f) (n := N) (cg_at ha hi hw) rfl hin hdg (fun H1 locs1 hP hD hS => kk H1 locs1 (cg_set ha hi hP hD hS))
theorem c_aast (S : CallFix p m c cc nL s args Ts own) (hX : FXA E s) (G : CG E ad n w s H locs) {i h0 N i2 h2 : Nat} {f : Nat → Option Nat} {j : Int32} {vs : List Value} (ha : ad i = h0) (hi : i < n) (hw : w i = .inl (E.2.1 4, N, .inr (.inr (.inr (.inr f))))) (ha2 : ad i2 = h2) (hi2 : i2 < n) (hw2 : w i2 = .inr (0, vs)) (hin : vp_in j N) (hdg : decode cc pc = .ok (.aastore, 1))
    (kk : ∀ (H1 : Heap) (locs1 : List Loc), CG E ad n (upw w i (.inl (E.2.1 4, N, .inr (.inr (.inr (.inr (va_up f j.toNatClampNeg (some h2)))))))) s H1 locs1 → W p l e R s m args below meth c H1 locs1 cells slots Q (F0 m (pc + 1) ls rest)) : W p l e R s m args below meth c H locs cells slots Q (F0 m pc ls (.ref h2 :: .int j :: .ref h0 :: rest)) :=
  va_astq S.1 S.2.1 hX.1.1 G.1.1 G.1.2 G.2 i 3 i2 0 (r := (RX0, TX0, 5)) (f := f) (n := N) (cg_at ha hi hw) rfl (cg_at ha2 hi2 hw2) rfl hin hdg (fun H1 locs1 hP hD hS => kk H1 locs1 (cg_set ha hi hP hD hS))
theorem c_call (S : CallFix p m c cc nL s args Ts own) (hX : FXA E s) (G : CG E ad n w s H locs) {y : MethodName} {bytes : ByteArray} {maxL : Nat} {ws : List Cond} {rm : Room} {index na mc ms n' a : Nat} {ok : (Nat → Nat) → (Nat → va_E) → Prop} {As st0 : List Value} (hM : CN l y ws rm E (.ref a :: As) ad n w n' ok mc ms) (cw' : CallB R s args own index y bytes maxL none ws rm mc ms na ∧ y.name = "<init>" ∧ (Cond.instanceMethod y).before args s = true) (hn : As.length = na) (hsize : ls.size = nL) (hstack : st0 = As.reverse ++ .ref a :: rest) (hW : (rest.map fun v => v.category).sum ≤ 8) (hf : cells + mc ≤ R.cells ∧ slots + ms ≤ R.slots) (hdg : decode cc pc = .ok (.invokespecial index, 3))
    (kk : ∀ (ad' : Nat → Nat) (w' : Nat → va_E) (H1 : Heap) (locs1 : List Loc), (∀ k, k < n → ad' k = ad k) → ok ad' w' → CG E ad' n' w' s H1 locs1 → W p l e R s m args below meth c H1 locs1 (cells + mc) (slots + ms) Q (F0 m (pc + 3) ls rest)) : W p l e R s m args below meth c H locs cells slots Q (F0 m pc ls st0) := by
  subst hstack
  have hr := va_runI (g := F0 m pc ls (As.reverse ++ .ref a :: rest)) (As := As) (rest := rest) (cells := cells) (slots := slots) (locs := locs) (l := l) (e := e) (below := below) (meth := meth) (H := H) (R := R) S hM cw' ⟨e_blindC, fun U hU hW => ⟨rfl, hX.warm hW hU G.2, by rw [hU]; exact G.1⟩⟩ rfl hn hsize rfl (lv_room hW) hdg hf
  have hS := G.2
  intro T hT X
  obtain ⟨v, st₀, t, T', L1, h0, X', hL, e1, e2, ⟨⟨hv, ad', w', hA, hok, hG⟩, hz, hk⟩, st⟩ := hr T hT X
  cases hv
  rw [h0] at hz hk
  obtain ⟨t2, a1, b1⟩ := kk ad' w' T'.heap (locs ++ L1) hA hok ⟨by rw [e1]; exact hG, Nat.le_trans hS.1 (by rw [e1]; exact hz), fun q h1 h2 => by rw [e1, hk q (Nat.lt_of_lt_of_le h1 hS.1) h2]; exact hS.2.1 q h1 h2, fun q hq => (List.mem_append.mp hq).elim (hS.2.2 q) (hL q)⟩ T' rfl X'
  exact ⟨t2, st t2 a1, b1⟩
theorem c_callN (S : CallFix p m c cc nL s args Ts own) (hX : FXA E s) (G : CG E ad n w s H locs) {y : MethodName} {bytes : ByteArray} {maxL : Nat} {host : String} {ws : List Cond} {rm : Room} {index na mc ms n' a : Nat} {ok : (Nat → Nat) → (Nat → va_E) → Prop} {As st0 : List Value} (hM : CN l y ws rm E (.ref a :: As) ad n w n' ok mc ms) (cw' : va_CN R s args own index y host bytes maxL none ws rm mc ms na ∧ y.name = "<init>" ∧ (Cond.instanceMethod y).before args s = true) (hn : As.length = na) (hsize : ls.size = nL) (hstack : st0 = As.reverse ++ .ref a :: rest) (hW : (rest.map fun v => v.category).sum ≤ 8) (hf : cells + mc ≤ R.cells ∧ slots + ms ≤ R.slots) (hdg : decode cc pc = .ok (.invokespecial index, 3))
    (kk : ∀ (ad' : Nat → Nat) (w' : Nat → va_E) (H1 : Heap) (locs1 : List Loc), (∀ k, k < n → ad' k = ad k) → ok ad' w' → CG E ad' n' w' s H1 locs1 → W p l e R s m args below meth c H1 locs1 (cells + mc) (slots + ms) Q (F0 m (pc + 3) ls rest)) : W p l e R s m args below meth c H locs cells slots Q (F0 m pc ls st0) := by
  subst hstack
  have hr := va_runIN (g := F0 m pc ls (As.reverse ++ .ref a :: rest)) (As := As) (rest := rest) (cells := cells) (slots := slots) (locs := locs) (l := l) (e := e) (below := below) (meth := meth) (H := H) (R := R) S hM cw' ⟨e_blindC, fun U hU hW => ⟨rfl, hX.warm hW hU G.2, by rw [hU]; exact G.1⟩⟩ rfl hn hsize rfl (lv_room hW) hdg hf
  have hS := G.2
  intro T hT X
  obtain ⟨v, st₀, t, T', L1, h0, X', hL, e1, e2, ⟨⟨hv, ad', w', hA, hok, hG⟩, hz, hk⟩, st⟩ := hr T hT X
  cases hv
  rw [h0] at hz hk
  obtain ⟨t2, a1, b1⟩ := kk ad' w' T'.heap (locs ++ L1) hA hok ⟨by rw [e1]; exact hG, Nat.le_trans hS.1 (by rw [e1]; exact hz), fun q h1 h2 => by rw [e1, hk q (Nat.lt_of_lt_of_le h1 hS.1) h2]; exact hS.2.1 q h1 h2, fun q hq => (List.mem_append.mp hq).elim (hS.2.2 q) (hL q)⟩ T' rfl X'
  exact ⟨t2, st t2 a1, b1⟩
theorem c_vret (S : CallFix p m c cc nL s args Ts own) {ad0 : Nat → Nat} {n0 : Nat} {ok : (Nat → Nat) → (Nat → va_E) → Prop} (G : CG E ad n w s H locs) (hr : meth.sig.returnType = none) (hlk : meth.locks = false) (hdg : decode cc pc = .ok (.return_, 1)) (hA : ∀ k, k < n0 → ad k = ad0 k) (hok : ok ad w) : W p l e R s m args below meth c H locs cells slots (MQ below (e_QC E ad0 n0 n ok) args s cells slots (e_A E)) (F0 m pc ls []) :=
  W.vret S.1 S.2.1 hr (fun t ht _ => ⟨⟨rfl, ad, w, hA, hok, by rw [ht]; exact G.1⟩, G.2.F ht⟩) G.2.2.2 hdg hlk
end CROWS
/-- a static table copied into a new array -/
theorem cp_str {cs : Cell} {f : Nat → Int32} {N sp k : Nat} (c0 : ClassId) (h : ∀ j, j < N → cs.slots[j]? = some (.int (f j))) (hs : sp + k ≤ N) : cs.stretch sp k = (arrV c0 N (fun j => .int (f j))).stretch sp k := by
  unfold Cell.stretch
  apply List.map_congr_left
  intro i hi
  have hi' := List.mem_range.mp hi
  rw [Array.getD_eq_getD_getElem?, Array.getD_eq_getD_getElem?, h _ (by omega), arrV_read _ _ (by omega)]
theorem c_copyT {p : Program} {l : Launch} {e : Env} {R : Room} {s : State} {m : MethodId} {args : Array Value} {below : List Frame} {meth : Method} {c : Code} {H : Heap} {locs : List Loc} {cells slots : Nat} {Q : State → Prop} {cc : ByteArray} {pc nL : Nat} {ls : Array Slot} {rest : List Value} {E : Ev} {ad : Nat → Nat} {n : Nat} {w : Nat → va_E} {Ts : List Cond} {own : String}
    (S : CallFix p m c cc nL s args Ts own) (hX : FXA E s) (G : CG E ad n w s H locs) {t i h0 N index : Nat} {f g : Nat → Int32} {sp dp x : Int32} (hT : va_T .int t 10 (fun j => .int (f j)) (e_A E) s s.heap) (ha : ad i = h0) (hi : i < n) (hw : w i = .inl (E.2.1 0, N, .inl g)) (h1 : ¬ sp < 0) (h2 : ¬ dp < 0) (h3 : ¬ x < 0) (h4 : sp.toNatClampNeg + x.toNatClampNeg ≤ 10) (h5 : dp.toNatClampNeg + x.toNatClampNeg ≤ N) (hlink : Cond.methodLink own index arraycopyName ∈ Ts) (hnat : Cond.native arraycopyName ∈ Ts) (hstat : Cond.static arraycopyName ∈ Ts) (hini : Cond.initialized "java/lang/System" ∈ Ts) (hsize : ls.size = nL) (hfr : 1 ≤ R.frames) (hlo : (rest.map fun v => v.category).sum + (nativeFrameWords "java/lang/System" "arraycopy" 5 + 11) ≤ R.locals) (hdg : decode cc pc = .ok (.invokestatic index, 3))
    (kk : ∀ (H1 : Heap) (locs1 : List Loc), CG E ad n (upw w i (.inl (E.2.1 0, N, .inl (va_cpy f g sp.toNatClampNeg dp.toNatClampNeg x.toNatClampNeg)))) s H1 locs1 → W p l e R s m args below meth c H1 locs1 cells slots Q (F0 m (pc + 3) ls rest)) : W p l e R s m args below meth c H locs cells slots Q (F0 m pc ls (.int x :: .int dp :: .ref h0 :: .int sp :: .ref t :: rest)) := by
  have nn : ∀ z : Int32, ¬ z < 0 → z.toInt = (z.toNatClampNeg : Int) := by
    intro z hz
    have hz0 : ¬ z.toInt < 0 := fun q => hz (Int32.lt_iff_toInt_lt.mpr q)
    show z.toInt = ((z.toInt.toNat : Nat) : Int)
    omega
  obtain ⟨hx, hb, hml, hown, hts⟩ := S
  obtain ⟨⟨hP, hD⟩, hS⟩ := G
  obtain ⟨cs, t1, ⟨t2, ks, t3, comp, t4⟩, t5, t6, t7, t8, t9⟩ := hT
  have ht : t < s.heap.size := (Array.getElem?_eq_some_iff.mp t1).1
  have hsrc : H[t]? = some cs := (hS.2.1 t ht t9).trans t1
  have h1c := cg_at ha hi hw
  have hdst : H[h0]? = some (vp_cell (E.2.1 0) (N, .inl g)) := hP i _ h1c
  obtain ⟨-, kd, hkd, cm, hkk⟩ := (hX.1.1.2 0 (E.2.1 0, .int) rfl).1 N (fun j => .int (g j))
  intro T hT X
  obtain ⟨vm', X', step⟩ := X.arraycopy hx hown (hts _ hlink) (hts _ hnat) (hts _ hstat) (hts _ hini) (src := t) (dst := h0) (cs := cs) (cd := vp_cell (E.2.1 0) (N, .inl g)) (srcPos := sp) (destPos := dp) (n := x) (by rw [hT]; exact hsrc) (by rw [hT]; exact hdst)
    t2 (fun _ h => by cases h) t5 (fun h => by cases h) t3 hkd t4 hkk rfl h1 h2 h3
    (by rw [nn sp h1, nn x h3]; omega)
    (by rw [nn dp h2, nn x h3]; show ¬ _ > ((arrV (E.2.1 0) N (fun j => .int (g j))).slots.size : Int); rw [arrV_size]; omega)
    (fun vm₁ _ j hj => by
      have ee : cs.slots.getD (sp.toNatClampNeg + j) .null = .int (f (sp.toNatClampNeg + j)) := by
        rw [Array.getD_eq_getD_getElem?, t8 _ (by omega)]
        rfl
      rw [ee]
      exact ⟨rfl, trivial⟩)
    (g := F0 m pc ls (.int x :: .int dp :: .ref h0 :: .int sp :: .ref t :: rest)) rfl (by rw [hml]; exact hsize) (rest := rest) rfl (by rw [hb]; exact hdg) hfr (by show 2 * 0 + _ + _ ≤ _; omega)
  have e1 : copied cs (vp_cell (E.2.1 0) (N, .inl g)) sp dp x = vp_cell (E.2.1 0) (N, .inl (va_cpy f g sp.toNatClampNeg dp.toNatClampNeg x.toNatClampNeg)) := by
    show Cell.storeRun (arrV (E.2.1 0) N (fun j => .int (g j))) dp.toNatClampNeg (cs.stretch sp.toNatClampNeg x.toNatClampNeg) = _
    rw [cp_str (E.2.1 0) t8 h4]
    exact va_copied (fun z => .int z) (E.2.1 0) (E.2.1 0) f g h4
  rw [e1] at X' step
  have hl : h0 < H.size := (Array.getElem?_eq_some_iff.mp hdst).1
  generalize hnc : vp_cell (E.2.1 0) (N, .inl (va_cpy f g sp.toNatClampNeg dp.toNatClampNeg x.toNatClampNeg)) = nc at X' step
  have hheap : ((T.setVm vm').setCell h0 nc).heap = H.setIfInBounds h0 nc := by rw [← hT]; rfl
  have oq : ∀ q : Nat, q ≠ h0 → (H.setIfInBounds h0 nc)[q]? = H[q]? := fun q hq => by simp [Array.getElem?_setIfInBounds, Ne.symm hq]
  have hAh : e_A E h0 := hD.2 i _ h1c
  obtain ⟨t', a1, b1⟩ := kk _ _ (cg_set ha hi (hP.set hD h1c (show (H.setIfInBounds h0 nc)[h0]? = some (vp_cell (E.2.1 0) (N, .inl (va_cpy f g sp.toNatClampNeg dp.toNatClampNeg x.toNatClampNeg))) by rw [hnc]; simp [Array.getElem?_setIfInBounds, hl]) oq) (hD.set h1c) ⟨by simp; exact hS.1, fun q g1 g2 => by
      rw [oq q (fun e => g2 (by rw [e]; exact hAh))]
      exact hS.2.1 q g1 g2, fun q hq => by
      rcases List.mem_append.mp hq with h | h
      · exact hS.2.2 q h
      · obtain ⟨z, -, hz⟩ := List.mem_map.mp h
        rw [← hz]
        exact hAh⟩) _ hheap X'
  exact ⟨t', step t' a1, b1⟩
