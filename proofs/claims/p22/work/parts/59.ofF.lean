/-- as CS.of, for a method that no entry runs in its stead, whatever its class -/
theorem CS.ofF {l : Launch} {E : Ev} {I : SI} {L : SL} {cc : ByteArray} {y : MethodName} {ws ws' : List Cond} {rm : Room} {As : List Value} {Rs : Option Value → SI → SL → Prop} {maxL : Nat} {ret : Option FieldType} (hy : plainFor y = true) (hw : ws = Cond.code y cc maxL ret :: ws') (hlen : (lg_sl As).length ≤ maxL)
    (body : ∀ (p : Program) (e : Env) (s : State) (m : MethodId) (below : List Frame) (meth : Method) (c : Code) (ls : Array Slot), CallFix p m c cc maxL s As.toArray ws y.cls → meth.sig.returnType = ret → meth.locks = false → FX E s → GS E I L s s.heap [] → lv_has ls maxL (lv_args 0 As) →
      W p l e rm s m As.toArray below meth c s.heap [] 0 0 (MQ below (e_Qs E Rs) As.toArray s 0 0 (e_A E)) (F0 m 0 ls [])) : CS l y ws rm E As I L Rs := by
  unfold CS Met
  refine MetFree.of_bodySF (code := cc) (maxLocals := maxL) (ret := ret) hy ?_ ?_
  · intro args s m h hn
    obtain ⟨meth, c, h1, h2, h3, h4, h5, h6, -, -⟩ := Cond.code_spec hn (atoms_spec (ws := ws) h _ (by rw [hw]; exact List.mem_cons_self))
    exact ⟨meth, c, h1, h2, h3, h4, h5, h6⟩
  · intro p e s m args below meth c s₁ B hml hP _
    have hh0 : s₁.heap = s.heap := by rw [B.state]; rfl
    obtain ⟨rfl, hX, hG⟩ := hP
    have hl := lv_entry As (n := maxL) hlen
    have K : W p l e rm s m As.toArray below meth c s.heap [] 0 0 (MQ below (e_Qs E Rs) As.toArray s 0 0 (e_A E)) (entryFrame m As.toArray maxL) := by
      rw [lg_entry_eq]
      exact body p e s m below meth c _ ⟨B.exec, B.bytes, hml, findClass_of_methodNamed B.named, atoms_spec (ws := ws) B.pre⟩ B.returns B.notSynchronized hX ⟨hG, va_S.rf⟩ hl
    obtain ⟨t, a1, o, b1, b2, b3⟩ := K s₁ hh0 (Stand.of_body B)
    exact ⟨t, o, a1, b1, b2, ⟨b3.1, b3.2⟩⟩
