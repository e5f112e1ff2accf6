/-! what the law's entry gives of the machine -/
theorem arr_of {args : Array Value} {s : State} {ty : FieldType} (h : (Cond.arrayClass ty).before args s = true) (hn : ∀ c, s.vm.findClass ("[" ++ ty.toString) = some c → va_RA s c ty) : ∃ c, ArrOfT s c ty ∧ va_RA s c ty := by
  obtain ⟨c, k, comp, h1, h2, h3⟩ := Cond.arrayClass_spec h
  exact ⟨c, fun n z => ⟨fun k h => (by cases h), k, h2, comp, h3⟩, hn c h1⟩
theorem arr_ofB {args : Array Value} {s : State} {C : String} (h : (Cond.arrayOver (.object C)).before args s = true) : ∃ c, ArrOfT s c (.object C) ∧ va_RA s c (.object C) := by
  obtain ⟨comp, c, k, h1, h2, h3, h4, h5⟩ := Cond.arrayOver_spec h
  exact ⟨c, fun n z => ⟨fun k h => (by cases h), k, h3, comp, h4⟩, k, comp, h3, h4, h1, h5⟩
theorem cl_known {args : Array Value} {s : State} (hts : ∀ w ∈ lw_tbl, w.before args s = true) (c : Nat) : ∃ (cC : ClassId) (iS : Nat → Nat), ∀ q : vw_C, vwCl[c]? = some q → u_Kn s q.1 q.2.1 q.2.2 cC iS := by
  have one : ∀ (C : String) (T : u_T) (N n : Nat), vwCl[c]? = some (C, T, N) → (∀ w ∈ u_ws C T N, w ∈ lw_tbl) → Cond.instantiable C n ∈ lw_tbl → ∃ (cC : ClassId) (iS : Nat → Nat), ∀ q : vw_C, vwCl[c]? = some q → u_Kn s q.1 q.2.1 q.2.2 cC iS := by
    intro C T N n h h1 h2
    obtain ⟨cC, iS, hk⟩ := u_known hts h1 (hts _ h2)
    refine ⟨cC, iS, fun q hq => ?_⟩
    cases h.symm.trans hq
    exact hk
  match c with
  | 0 => exact one RX0 TX0 5 5 rfl (by decide +kernel) (by decide +kernel)
  | 1 => exact one RX1 TX1 2 2 rfl (by decide +kernel) (by decide +kernel)
  | 2 => exact one RX2 TX2 3 3 rfl (by decide +kernel) (by decide +kernel)
  | 3 => exact one RX3 TX3 4 4 rfl (by decide +kernel) (by decide +kernel)
  | 4 => exact one RX4 TX4 7 7 rfl (by decide +kernel) (by decide +kernel)
  | 5 => exact one RX5 TX5 13 13 rfl (by decide +kernel) (by decide +kernel)
  | 6 => exact one RX6 TX6 4 4 rfl (by decide +kernel) (by decide +kernel)
  | 7 => exact one RX7 TX7 2 2 rfl (by decide +kernel) (by decide +kernel)
  | 8 => exact one RX8 TX8 4 4 rfl (by decide +kernel) (by decide +kernel)
  | n + 9 => exact ⟨0, fun _ => 0, fun q hq => by cases hq⟩
def tab_w (nm : String) (f : Nat → Int32) (fl : List Cond) : Prop := Cond.arrayOf (.static "BridgeLegs" nm "[I") .int ∈ fl ∧ Cond.eq (.length (.static "BridgeLegs" nm "[I")) (.int 10) ∈ fl ∧ ∀ j, j < 10 → Cond.eq (.elem (.static "BridgeLegs" nm "[I") (.int (Int32.ofNat j))) (.int (f j)) ∈ fl
theorem tab_of {args : Array Value} {s : State} {nm : String} {f : Nat → Int32} {fl : List Cond} {A : Nat → Prop} (hts : ∀ w ∈ lw_tbl, w.before args s = true) (hs : ∀ w ∈ fl, w.before args s = true) (hl : Cond.laysStatic "BridgeLegs" nm "[I" ∈ lw_tbl) (hw : tab_w nm f fl) (hA : ∀ a : Nat, a < s.heap.size → ¬ A a) : ∃ t, va_Z "BridgeLegs" nm "[I" (.ref t) A s s.heap ∧ va_T .int t 10 (fun j => .int (f j)) A s s.heap := by
  obtain ⟨h1, h2, h3⟩ := hw
  obtain ⟨t, ht, hT⟩ := va_Tof (N := 10) (f := fun j => .int (f j)) (A := A) (by decide) (hs _ h1) (va_eqt (hs _ h2)) (fun j hj => va_eqt (hs _ (h3 j hj))) hA
  exact ⟨t, va_Zof (hts _ hl) (hts _ (by decide +kernel)) ht hA, hT⟩
theorem tab_w0 : tab_w "DIAL_LOWEST" (e_tab 0) (flatC (Jvm.Cond.and given_1 narrow_1)) := ⟨by decide +kernel, by decide +kernel, by decide +kernel⟩
theorem tab_w1 : tab_w "DIAL_HIGHEST" (e_tab 1) (flatC (Jvm.Cond.and given_1 narrow_1)) := ⟨by decide +kernel, by decide +kernel, by decide +kernel⟩
theorem tab_w2 : tab_w "DIAL_INITIAL" (e_tab 2) (flatC (Jvm.Cond.and given_1 narrow_1)) := ⟨by decide +kernel, by decide +kernel, by decide +kernel⟩
theorem nF_in : ∀ q ∈ e_nF, Cond.fieldLinkNest q.1 q.2.1 q.2.2.1 q.2.2.2.1 q.2.2.2.2 "BridgeLegs" ∈ lw_tbl := by decide +kernel
theorem nM_in : ∀ q ∈ e_nM, Cond.methodLinkNest q.1 q.2.1 q.2.2 "BridgeLegs" ∈ lw_tbl := by decide +kernel
/-- the machine at the law's entry -/
theorem e_start {args : Array Value} {s : State} (hts : ∀ w ∈ lw_tbl, w.before args s = true) (hgv : (Jvm.Cond.and given_1 narrow_1).before args s = true) : ∃ E : Ev, FXA E s ∧ E.2.2.1 = s.heap.size := by
  have hs := flat_of_before _ hgv
  have hcl := cl_known hts
  obtain ⟨a0, i0, j0⟩ := arr_of (ty := .int) (hts _ (by decide +kernel)) (fun c h => h)
  obtain ⟨a1, i1, j1⟩ := arr_of (ty := .boolean) (hts _ (by decide +kernel)) (fun c h => h)
  obtain ⟨a2, i2, j2⟩ := arr_of (ty := .char) (hts _ (by decide +kernel)) (fun c h => h)
  have hov : (Cond.arrayOver (.object "BridgeLegs$Bridge")).before args s = true := hts _ (by decide +kernel)
  obtain ⟨a4, i4, j4⟩ := arr_ofB hov
  refine ⟨((fun c => Classical.choose (hcl c), fun c => Classical.choose (Classical.choose_spec (hcl c))), (fun k => match k with | 0 => a0 | 1 => a1 | 2 => a2 | _ => a4), s.heap.size, fun _ => 0), ⟨⟨⟨fun c q hq => Classical.choose_spec (Classical.choose_spec (hcl c)) q hq, ?_⟩, ?_, ⟨fun q hq => va_tabs rfl rfl (hts _ (nF_in q hq)), fun q hq => va_tabs rfl rfl (hts _ (nM_in q hq))⟩, Nat.le_refl _⟩, va_AO.of hov⟩, rfl⟩
  · intro k q hq
    match k with
    | 0 => cases hq; exact ⟨i0, j0⟩
    | 1 => cases hq; exact ⟨i1, j1⟩
    | 2 => cases hq; exact ⟨i2, j2⟩
    | 3 => cases hq; exact ⟨i4, j4⟩
    | n + 4 => cases hq
  · intro i hi
    have hA : ∀ a : Nat, a < s.heap.size → ¬ (s.heap.size ≤ a) := fun a h => Nat.not_le.mpr h
    match i with
    | 0 => exact tab_of hts hs (by decide +kernel) tab_w0 hA
    | 1 => exact tab_of hts hs (by decide +kernel) tab_w1 hA
    | 2 => exact tab_of hts hs (by decide +kernel) tab_w2 hA
    | n + 3 => exact absurd hi (by omega)
