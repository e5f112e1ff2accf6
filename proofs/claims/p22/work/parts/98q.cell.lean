/-! the law's cell: a number of the script, or one made of its place; never negative -/
def ScrAt (E : Ev) (b Lx : Nat) (xs : Nat → Int32) (U : State) : Prop := va_X b Lx xs U U.heap ∧ b < U.heap.size ∧ ¬ e_A E b
def e_PreX (E : Ev) (b Lx : Nat) (xs : Nat → Int32) (I : SI) (L : SL) (U : State) : Prop := e_Pre E 161 (cw E I L) U ∧ ScrAt E b Lx xs U
theorem e_blindX {E : Ev} {b Lx : Nat} {xs : Nat → Int32} {I : SI} {L : SL} {As : List Value} : FrameBlind (va_Pc As (e_PreX E b Lx xs I L)) := fun _ U g mk q => ⟨q.1, ⟨q.2.1.1.blind, q.2.1.2⟩, va_X.moved (u := U) (U := U.calling g mk _) (Vm.Alike.refl U.vm) q.2.2.1, q.2.2.2⟩
def CX (l : Launch) (y : MethodName) (ws : List Cond) (rm : Room) (E : Ev) (b Lx : Nat) (xs : Nat → Int32) (As : List Value) (I : SI) (L : SL) (Rs : Option Value → SI → SL → Prop) : Prop :=
  Met l y ws rm (va_Pc As (e_PreX E b Lx xs I L)) (e_Qs E Rs) 0 0 (e_A E)
section XROWS
variable {p : Program} {l : Launch} {e : Env} {R : Room} {s : State} {m : MethodId} {args : Array Value} {below : List Frame} {meth : Method} {c : Code} {H : Heap} {locs : List Loc} {cells slots : Nat} {Q : State → Prop}
variable {cc : ByteArray} {pc nL : Nat} {ls : Array Slot} {rest : List Value} {E : Ev} {I : SI} {L : SL} {Ts : List Cond} {own : String}
theorem CX.of {y : MethodName} {ws ws' : List Cond} {rm : Room} {b Lx : Nat} {xs : Nat → Int32} {As : List Value} {Rs : Option Value → SI → SL → Prop} {maxL : Nat} {ret : Option FieldType} (hy : plainName y.cls = true) (hw : ws = Cond.code y cc maxL ret :: ws') (hlen : (lg_sl As).length ≤ maxL)
    (body : ∀ (p : Program) (e : Env) (s : State) (m : MethodId) (below : List Frame) (meth : Method) (c : Code) (ls : Array Slot), CallFix p m c cc maxL s As.toArray ws y.cls → meth.sig.returnType = ret → meth.locks = false → FX E s → ScrAt E b Lx xs s → GS E I L s s.heap [] → lv_has ls maxL (lv_args 0 As) →
      W p l e rm s m As.toArray below meth c s.heap [] 0 0 (MQ below (e_Qs E Rs) As.toArray s 0 0 (e_A E)) (F0 m 0 ls [])) : CX l y ws rm E b Lx xs As I L Rs := by
  refine Met.ofW (cc := cc) (maxL := maxL) (ret := ret) hy hw ?_
  intro p e s m args below meth c s₁ B hml hv
  obtain ⟨rfl, ⟨hX, hG⟩, hS⟩ := hv
  have hl := lv_entry As (n := maxL) hlen
  rw [lg_entry_eq]
  exact body p e s m below meth c _ ⟨B.exec, B.bytes, hml, findClass_of_methodNamed B.named, atoms_spec (ws := ws) B.pre⟩ B.returns B.notSynchronized hX hS ⟨hG, va_S.rf⟩ hl
theorem ScrAt.warm {b Lx : Nat} {xs : Nat → Int32} {U : State} (h : ScrAt E b Lx xs s) (hW : s.WarmedH U.vm) (hH : U.heap = H) (hS : va_S (e_A E) s.heap H locs) : ScrAt E b Lx xs U := by
  obtain ⟨h1, h2, h3⟩ := h
  subst hH
  exact ⟨(h1.kept (hS.2.1 b h2 h3)).moved hW.alike, Nat.lt_of_lt_of_le h2 hS.1, h3⟩
theorem s_callX (S : CallFix p m c cc nL s args Ts own) (hX : FX E s) {b Lx : Nat} {xs : Nat → Int32} (hx : ScrAt E b Lx xs s) (G : GS E I L s H locs) {y : MethodName} {bytes : ByteArray} {maxL : Nat} {ret : Option FieldType} {ws : List Cond} {rm : Room} {index n : Nat} {As st0 : List Value} {Rs : Option Value → SI → SL → Prop} (hM : CX l y ws rm E b Lx xs As I L Rs) (cw' : CallB R s args own index y bytes maxL ret ws rm 0 0 n ∧ (Cond.static y).before args s = true) (hn : As.length = n) (hsize : ls.size = nL) (hstack : st0 = As.reverse ++ rest) (hW : (rest.map fun v => v.category).sum ≤ 8) (hf : cells ≤ R.cells ∧ slots ≤ R.slots) (hdg : decode cc pc = .ok (.invokestatic index, 3))
    (kk : ∀ (v : Option Value) (I' : SI) (L' : SL) (H1 : Heap) (locs1 : List Loc), Rs v I' L' → GS E I' L' s H1 locs1 → W p l e R s m args below meth c H1 locs1 cells slots Q (F0 m (pc + 3) ls (v.toList ++ rest))) : W p l e R s m args below meth c H locs cells slots Q (F0 m pc ls st0) := by
  subst hstack
  exact s_call (va_runS (As := As) (rest := rest) S hM cw' ⟨e_blindX, fun U hU hW => ⟨rfl, ⟨hX.warm hW hU G.2, by rw [hU]; exact G.1⟩, hx.warm hW hU G.2⟩⟩ rfl hn hsize rfl (lv_room hW) hdg hf) G.2 kk
end XROWS
set_option maxRecDepth 100000 in
set_option maxHeartbeats 4000000 in
theorem k_cell (l : Launch) (E : Ev) {I : SI} {L : SL} (b Lx : Nat) (xs : Nat → Int32) (k : Nat) (hL : Lx ≤ 260) (hk : k < 2 ^ 30) : CX l yL_cell wsL_cell ({ frames := 0, cells := 0, slots := 0, locals := 0 } : Room) E b Lx xs [.ref b, .int (nI k)] I L (fun vv I' L' => ∃ c, c < 2 ^ 31 ∧ vv = some (.int (nI c)) ∧ I' = I ∧ L' = L) := by
  refine CX.of (cc := cL_cell) (maxL := 2) (ret := (some .int)) (by decide) rfl (Nat.le_of_ble_eq_true rfl) ?_
  intro pg eg sg mg below meth cg ls S hr hlk hX hx G hl
  have S : CallFix pg mg cg cL_cell 2 sg _ wsL_cell RL := S
  have hl : lv_has ls 2 [(0, .ref b), (1, .int (nI k))] := hl
  obtain ⟨hXs, hbl, hbA⟩ := hx
  have fin : ∀ x : Int32, W pg l eg ({ frames := 0, cells := 0, slots := 0, locals := 0 } : Room) sg mg #[Value.ref b, Value.int (nI k)] below meth cg sg.heap [] 0 0 (MQ below (e_Qs E (fun vv I' L' => ∃ c, c < 2 ^ 31 ∧ vv = some (.int (nI c)) ∧ I' = I ∧ L' = L)) #[Value.ref b, Value.int (nI k)] sg 0 0 (e_A E)) (F0 mg 19 ls [.int x]) := by
    intro x
    refine lv_ldc (v := (2147483647 : Int32)) S.1 S.2.1 S.2.2.2.1 (S.2.2.2.2 _ (List.mem_of_getElem? (i := 2) rfl)) dL_cell_19 ?_
    refine lv_iand S.1 S.2.1 dL_cell_21 ?_
    obtain ⟨c, hc, ec⟩ := pk_andE x (m := (2147483647 : Int32)) 31 (by decide)
    refine s_iret (x := (x &&& 2147483647)) S G hr hlk dL_cell_22 ?_
    exact ⟨c, hc, congrArg (fun q : Int32 => some (Value.int q)) ec, rfl, rfl⟩
  refine lv_iload_n S.1 S.2.1 dL_cell_0 rfl (lv_at hl 1 rfl) ?_
  refine lv_aload_n S.1 S.2.1 dL_cell_1 rfl (lv_at hl 0 rfl) ?_
  refine va_slen S.1 S.2.1 hXs hbl hbA G.2 dL_cell_2 ?_
  refine lv_icmp_ge (tgt := 12) S.1 S.2.1 dL_cell_3 (by decide) (fun _ => ?_) (fun hlt => ?_)
  · refine lv_ldc (v := (15485959 : Int32)) S.1 S.2.1 S.2.2.2.1 (S.2.2.2.2 _ (List.mem_of_getElem? (i := 1) rfl)) dL_cell_12 ?_
    refine lv_iload_n S.1 S.2.1 dL_cell_14 rfl (lv_at hl 1 rfl) ?_
    refine s_imul (v := ((15485959 : Int32) * nI k)) S dL_cell_15 rfl ?_
    refine lv_bipush (v := (109 : Int32)) S.1 S.2.1 dL_cell_16 (by decide) ?_
    refine s_iadd (v := ((15485959 : Int32) * nI k + 109)) S dL_cell_18 rfl ?_
    exact fin _
  · have hkL : k < Lx := by
      rcases Nat.lt_or_ge k Lx with q | q
      · exact q
      · exact absurd ((nI_leI (by omega) (by omega)).mpr q) hlt
    refine lv_aload_n S.1 S.2.1 dL_cell_6 rfl (lv_at hl 0 rfl) ?_
    refine lv_iload_n S.1 S.2.1 dL_cell_7 rfl (lv_at hl 1 rfl) ?_
    refine va_sld S.1 S.2.1 hXs hbl hbA G.2 (vp_in_nI hkL (by omega)) dL_cell_8 ?_
    refine lv_goto (tgt := 19) S.1 S.2.1 dL_cell_9 (by decide) ?_
    exact fin _
