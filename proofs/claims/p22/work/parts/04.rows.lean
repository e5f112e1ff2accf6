def isb (x : Int32) : Prop := x = 0 ∨ x = 1
theorem isb_nar {x : Int32} (h : isb x) : narrow .boolean (.int x) = .int x := by rcases h with rfl | rfl <;> rfl
theorem isb_fit {x : Int32} (h : isb x) : fits .boolean (.int x) = true := by rcases h with rfl | rfl <;> rfl
theorem isb_vp {x : Int32} (h : isb x) : vp_nar .boolean x = x := by rcases h with rfl | rfl <;> rfl
theorem isb_ite {P : Prop} [inst : Decidable P] : isb (if P then 1 else 0) := by
  by_cases h : P
  · rw [if_pos h]
    exact Or.inr rfl
  · rw [if_neg h]
    exact Or.inl rfl
section ROWS2
variable {p : Program} {l : Launch} {e : Env} {R : Room} {s : State} {m : MethodId} {args : Array Value} {below : List Frame} {meth : Method} {c : Code} {H : Heap} {locs : List Loc} {cells slots : Nat} {Q : State → Prop}
variable {cc : ByteArray} {pc nL : Nat} {ls : Array Slot} {rest : List Value} {E : Ev} {I : SI} {L : SL} {Ts : List Cond} {own : String}
theorem s_at (G : GS E I L s H locs) {i kd : Nat} {a : Nat → Int32} {x : va_E} (hsh : sh i = kd) (hkd : kd ≠ 99) (ha : I i = a) (hcl : cl E kd i a (L i) = x) : (sw E.2.2.2 161 (cw E I L))[i]? = some (E.2.2.2 i, x) := by
  rw [sw_get (sh_lt hsh hkd)]
  unfold cw
  rw [hsh, ha, hcl]
theorem s_put (S : CallFix p m c cc nL s args Ts own) (hX : FX E s) (G : GS E I L s H locs) {i kd ci N index : Nat} {C ref : String} {T : u_T} {ty0 : Nat → FieldType} {ty : FieldType} {fs : List Value} {v : Value} {a a' : Nat → Int32} {I' : SI} (k : Nat) (hsh : sh i = kd) (ha : I i = a) (hcl : cl E kd i a (L i) = .inr (ci, fs)) (hcl' : cl E kd i a' (L i) = .inr (ci, fs.set k v)) (hI : up I i a' = I') (hkd : kd ≠ 99) (hc : vwCl[ci]? = some (C, T, N)) (hin : ∀ w ∈ u_ws C T N, w ∈ Ts) (hty : ∀ k, k < N → parseFieldDescriptor (T k).2.2.1 = some (ty0 k)) (hnm : ∀ a, a < N → ∀ b, b < N → a ≠ b → (T a).2.1 ≠ (T b).2.1) (hk : k < N) (hlink : Cond.fieldLink own index ref (T k).2.1 (T k).2.2.1 ∈ Ts) (hsame : ∀ x, s.fieldFound? (T k).1 (T k).2.1 (T k).2.2.1 = some x → s.fieldFound? ref (T k).2.1 (T k).2.2.1 = some x) (hfin : (T k).2.2.2 = false) (hd : parseFieldDescriptor (T k).2.2.1 = some ty) (hn : narrow ty v = v) (hfit : fits ty v = true) (hl : k < fs.length) (hdg : decode cc pc = .ok (.putfield index, 3))
    (kk : ∀ (H1 : Heap) (locs1 : List Loc), GS E I' L s H1 locs1 → W p l e R s m args below meth c H1 locs1 cells slots Q (F0 m (pc + 3) ls rest)) : W p l e R s m args below meth c H locs cells slots Q (F0 m pc ls (v :: .ref (E.2.2.2 i) :: rest)) := by
  obtain ⟨hx, hb, hml, hown, hts⟩ := S
  refine va_put (D := E.1) (ci := ci) (v := v) (ty := ty) (C := C) (T := T) (N := N) (fs := fs) hx hb hts hin ty0 hty hnm hown hX.1 G.1.1 G.1.2 G.2 i (s_at G hsh hkd ha hcl) hc k hk (hts _ hlink) hsame hfin hd hn hfit hl hdg (fun H1 locs1 hP hD hS => ?_)
  rw [sw_set (sh_lt hsh hkd), ← hcl', cw_up hsh, hI] at hP hD
  exact kk H1 locs1 ⟨⟨hP, hD⟩, hS⟩
theorem s_putN (S : CallFix p m c cc nL s args Ts own) (hX : FX E s) (G : GS E I L s H locs) {i kd ci N index : Nat} {C ref : String} {T : u_T} {ty0 : Nat → FieldType} {ty : FieldType} {fs : List Value} {v : Value} {a a' : Nat → Int32} {I' : SI} (k : Nat) (hsh : sh i = kd) (ha : I i = a) (hcl : cl E kd i a (L i) = .inr (ci, fs)) (hcl' : cl E kd i a' (L i) = .inr (ci, fs.set k v)) (hI : up I i a' = I') (hkd : kd ≠ 99) (hc : vwCl[ci]? = some (C, T, N)) (hin : ∀ w ∈ u_ws C T N, w ∈ Ts) (hty : ∀ k, k < N → parseFieldDescriptor (T k).2.2.1 = some (ty0 k)) (hnm : ∀ a, a < N → ∀ b, b < N → a ≠ b → (T a).2.1 ≠ (T b).2.1) (hk : k < N) (hlink : (own, index, ref, (T k).2.1, (T k).2.2.1) ∈ e_nF) (hsame : ∀ x, s.fieldFound? (T k).1 (T k).2.1 (T k).2.2.1 = some x → s.fieldFound? ref (T k).2.1 (T k).2.2.1 = some x) (hfin : (T k).2.2.2 = false) (hd : parseFieldDescriptor (T k).2.2.1 = some ty) (hn : narrow ty v = v) (hfit : fits ty v = true) (hl : k < fs.length) (hdg : decode cc pc = .ok (.putfield index, 3))
    (kk : ∀ (H1 : Heap) (locs1 : List Loc), GS E I' L s H1 locs1 → W p l e R s m args below meth c H1 locs1 cells slots Q (F0 m (pc + 3) ls rest)) : W p l e R s m args below meth c H locs cells slots Q (F0 m pc ls (v :: .ref (E.2.2.2 i) :: rest)) := by
  obtain ⟨hx, hb, hml, hown, hts⟩ := S
  refine va_putN (D := E.1) (ci := ci) (v := v) (ty := ty) (C := C) (T := T) (N := N) (fs := fs) (host := "BridgeLegs") hx hb hts hin ty0 hty hnm hown hX.1 G.1.1 G.1.2 G.2 i (s_at G hsh hkd ha hcl) hc k hk (va_Nw.use rfl (hX.2.2.1.1 _ hlink)) hsame hfin hd hn hfit hl hdg (fun H1 locs1 hP hD hS => ?_)
  rw [sw_set (sh_lt hsh hkd), ← hcl', cw_up hsh, hI] at hP hD
  exact kk H1 locs1 ⟨⟨hP, hD⟩, hS⟩
theorem s_putl (S : CallFix p m c cc nL s args Ts own) (hX : FX E s) (G : GS E I L s H locs) {i kd ci N index : Nat} {C ref : String} {T : u_T} {ty0 : Nat → FieldType} {ty : FieldType} {fs : List Value} {v : Value} {b b' : Nat → Int64} {L' : SL} (k : Nat) (hsh : sh i = kd) (ha : L i = b) (hcl : cl E kd i (I i) b = .inr (ci, fs)) (hcl' : cl E kd i (I i) b' = .inr (ci, fs.set k v)) (hI : upL L i b' = L') (hkd : kd ≠ 99) (hc : vwCl[ci]? = some (C, T, N)) (hin : ∀ w ∈ u_ws C T N, w ∈ Ts) (hty : ∀ k, k < N → parseFieldDescriptor (T k).2.2.1 = some (ty0 k)) (hnm : ∀ a, a < N → ∀ b, b < N → a ≠ b → (T a).2.1 ≠ (T b).2.1) (hk : k < N) (hlink : Cond.fieldLink own index ref (T k).2.1 (T k).2.2.1 ∈ Ts) (hsame : ∀ x, s.fieldFound? (T k).1 (T k).2.1 (T k).2.2.1 = some x → s.fieldFound? ref (T k).2.1 (T k).2.2.1 = some x) (hfin : (T k).2.2.2 = false) (hd : parseFieldDescriptor (T k).2.2.1 = some ty) (hn : narrow ty v = v) (hfit : fits ty v = true) (hl : k < fs.length) (hdg : decode cc pc = .ok (.putfield index, 3))
    (kk : ∀ (H1 : Heap) (locs1 : List Loc), GS E I L' s H1 locs1 → W p l e R s m args below meth c H1 locs1 cells slots Q (F0 m (pc + 3) ls rest)) : W p l e R s m args below meth c H locs cells slots Q (F0 m pc ls (v :: .ref (E.2.2.2 i) :: rest)) := by
  obtain ⟨hx, hb, hml, hown, hts⟩ := S
  refine va_put (D := E.1) (ci := ci) (v := v) (ty := ty) (C := C) (T := T) (N := N) (fs := fs) hx hb hts hin ty0 hty hnm hown hX.1 G.1.1 G.1.2 G.2 i (s_at G hsh hkd rfl (by rw [ha]; exact hcl)) hc k hk (hts _ hlink) hsame hfin hd hn hfit hl hdg (fun H1 locs1 hP hD hS => ?_)
  rw [sw_set (sh_lt hsh hkd), ← hcl', cw_upL hsh, hI] at hP hD
  exact kk H1 locs1 ⟨⟨hP, hD⟩, hS⟩
/-- a long field read -/
theorem s_getl (S : CallFix p m c cc nL s args Ts own) (hX : FX E s) (G : GS E I L s H locs) {i kd ci N index : Nat} {C ref : String} {T : u_T} {fs : List Value} {v : Value} {b : Nat → Int64} (k : Nat) (hsh : sh i = kd) (ha : L i = b) (hcl : cl E kd i (I i) b = .inr (ci, fs)) (hv : fs[k]? = some v) (hkd : kd ≠ 99) (hc : vwCl[ci]? = some (C, T, N)) (hin : ∀ w ∈ u_ws C T N, w ∈ Ts) (hk : k < N) (hlink : Cond.fieldLink own index ref (T k).2.1 (T k).2.2.1 ∈ Ts) (hsame : ∀ x, s.fieldFound? (T k).1 (T k).2.1 (T k).2.2.1 = some x → s.fieldFound? ref (T k).2.1 (T k).2.2.1 = some x) (hdg : decode cc pc = .ok (.getfield index, 3))
    (kk : W p l e R s m args below meth c H locs cells slots Q (F0 m (pc + 3) ls (v :: rest))) : W p l e R s m args below meth c H locs cells slots Q (F0 m pc ls (.ref (E.2.2.2 i) :: rest)) := by
  subst ha
  exact s_get S hX G k hsh rfl hcl hv hkd hc hin hk hlink hsame hdg kk
theorem s_getlN (S : CallFix p m c cc nL s args Ts own) (hX : FX E s) (G : GS E I L s H locs) {i kd ci N index : Nat} {C ref : String} {T : u_T} {fs : List Value} {v : Value} {b : Nat → Int64} (k : Nat) (hsh : sh i = kd) (ha : L i = b) (hcl : cl E kd i (I i) b = .inr (ci, fs)) (hv : fs[k]? = some v) (hkd : kd ≠ 99) (hc : vwCl[ci]? = some (C, T, N)) (hin : ∀ w ∈ u_ws C T N, w ∈ Ts) (hk : k < N) (hlink : (own, index, ref, (T k).2.1, (T k).2.2.1) ∈ e_nF) (hsame : ∀ x, s.fieldFound? (T k).1 (T k).2.1 (T k).2.2.1 = some x → s.fieldFound? ref (T k).2.1 (T k).2.2.1 = some x) (hdg : decode cc pc = .ok (.getfield index, 3))
    (kk : W p l e R s m args below meth c H locs cells slots Q (F0 m (pc + 3) ls (v :: rest))) : W p l e R s m args below meth c H locs cells slots Q (F0 m pc ls (.ref (E.2.2.2 i) :: rest)) := by
  subst ha
  exact s_getN S hX G k hsh rfl hcl hv hkd hc hin hk hlink hsame hdg kk
theorem s_iald (S : CallFix p m c cc nL s args Ts own) (hX : FX E s) (G : GS E I L s H locs) {i kd n : Nat} {a : Nat → Int32} {j x : Int32} (hsh : sh i = kd) (ha : I i = a) (hcl : cl E kd i a (L i) = .inl (E.2.1 0, n, .inl a)) (hkd : kd ≠ 99) (hin : vp_in j n) (hx : a j.toNatClampNeg = x) (hdg : decode cc pc = .ok (.iaload, 1))
    (kk : W p l e R s m args below meth c H locs cells slots Q (F0 m (pc + 1) ls (.int x :: rest))) : W p l e R s m args below meth c H locs cells slots Q (F0 m pc ls (.int j :: .ref (E.2.2.2 i) :: rest)) :=
  va_iald S.1 S.2.1 hX.1 G.1.1 i 0 (s_at G hsh hkd ha hcl) rfl hin hdg (by rw [hx]; exact kk)
theorem s_zald (S : CallFix p m c cc nL s args Ts own) (hX : FX E s) (G : GS E I L s H locs) {i : Nat} {a : Nat → Int32} {j x : Int32} (hsh : sh i = 10) (ha : I i = a) (hin : vp_in j 3) (hx : a j.toNatClampNeg = x) (hdg : decode cc pc = .ok (.baload, 1))
    (kk : W p l e R s m args below meth c H locs cells slots Q (F0 m (pc + 1) ls (.int x :: rest))) : W p l e R s m args below meth c H locs cells slots Q (F0 m pc ls (.int j :: .ref (E.2.2.2 i) :: rest)) :=
  va_zald S.1 S.2.1 hX.1 G.1.1 i 1 (f := a) (n := 3) (s_at G hsh (by decide) ha rfl) rfl hin hdg (by rw [hx]; exact kk)
theorem s_cald (S : CallFix p m c cc nL s args Ts own) (hX : FX E s) (G : GS E I L s H locs) {i : Nat} {a : Nat → Int32} {j x : Int32} (hsh : sh i = 11) (ha : I i = a) (hin : vp_in j 80) (hx : a j.toNatClampNeg = x) (hdg : decode cc pc = .ok (.caload, 1))
    (kk : W p l e R s m args below meth c H locs cells slots Q (F0 m (pc + 1) ls (.int x :: rest))) : W p l e R s m args below meth c H locs cells slots Q (F0 m pc ls (.int j :: .ref (E.2.2.2 i) :: rest)) :=
  va_cald S.1 S.2.1 hX.1 G.1.1 i 2 (f := a) (n := 80) (s_at G hsh (by decide) ha rfl) rfl hin hdg (by rw [hx]; exact kk)
theorem s_aald (S : CallFix p m c cc nL s args Ts own) (hX : FX E s) (G : GS E I L s H locs) {i : Nat} {j : Int32} {q : Nat} (hsh : sh i = 13) (hin : vp_in j 4) (hx : 55 + 26 * j.toNatClampNeg = q) (hdg : decode cc pc = .ok (.aaload, 1))
    (kk : W p l e R s m args below meth c H locs cells slots Q (F0 m (pc + 1) ls (.ref (E.2.2.2 q) :: rest))) : W p l e R s m args below meth c H locs cells slots Q (F0 m pc ls (.int j :: .ref (E.2.2.2 i) :: rest)) :=
  va_aldq S.1 S.2.1 hX.1 G.1.1 i 3 (f := fun j => some (E.2.2.2 (55 + 26 * j))) (n := 4) (s_at G hsh (by decide) rfl rfl) rfl hin hdg (by rw [hx]; exact kk)
theorem s_iast (S : CallFix p m c cc nL s args Ts own) (hX : FX E s) (G : GS E I L s H locs) {i kd n jn : Nat} {a : Nat → Int32} {I' : SI} {j x : Int32} (hsh : sh i = kd) (ha : I i = a) (hcl : ∀ f, cl E kd i f (L i) = .inl (E.2.1 0, n, .inl f)) (hkd : kd ≠ 99) (hin : vp_in j n) (hj : j.toNatClampNeg = jn) (hI : up I i (upd a jn x) = I') (hdg : decode cc pc = .ok (.iastore, 1))
    (kk : ∀ (H1 : Heap) (locs1 : List Loc), GS E I' L s H1 locs1 → W p l e R s m args below meth c H1 locs1 cells slots Q (F0 m (pc + 1) ls rest)) : W p l e R s m args below meth c H locs cells slots Q (F0 m pc ls (.int x :: .int j :: .ref (E.2.2.2 i) :: rest)) := by
  refine va_iast S.1 S.2.1 hX.1 G.1.1 G.1.2 G.2 i 0 (f := a) (n := n) (s_at G hsh hkd ha (hcl a)) rfl hin hdg (fun H1 locs1 hP hD hS => ?_)
  rw [sw_set (sh_lt hsh hkd), hj, ← hcl, cw_up hsh, hI] at hP hD
  exact kk H1 locs1 ⟨⟨hP, hD⟩, hS⟩
theorem s_zast (S : CallFix p m c cc nL s args Ts own) (hX : FX E s) (G : GS E I L s H locs) {i jn : Nat} {a : Nat → Int32} {I' : SI} {j x : Int32} (hsh : sh i = 10) (ha : I i = a) (hin : vp_in j 3) (hj : j.toNatClampNeg = jn) (hb : isb x) (hI : up I i (upd a jn x) = I') (hdg : decode cc pc = .ok (.bastore, 1))
    (kk : ∀ (H1 : Heap) (locs1 : List Loc), GS E I' L s H1 locs1 → W p l e R s m args below meth c H1 locs1 cells slots Q (F0 m (pc + 1) ls rest)) : W p l e R s m args below meth c H locs cells slots Q (F0 m pc ls (.int x :: .int j :: .ref (E.2.2.2 i) :: rest)) := by
  refine va_zast S.1 S.2.1 hX.1 G.1.1 G.1.2 G.2 i 1 (f := a) (n := 3) (s_at G hsh (by decide) ha rfl) rfl hin hdg (fun H1 locs1 hP hD hS => ?_)
  rw [isb_vp hb, sw_set (sh_lt hsh (by decide)), hj, show Sum.inl (E.2.1 1, 3, Sum.inl (upd a jn x)) = cl E 10 i (upd a jn x) (L i) from rfl, cw_up hsh, hI] at hP hD
  exact kk H1 locs1 ⟨⟨hP, hD⟩, hS⟩
theorem s_cast (S : CallFix p m c cc nL s args Ts own) (hX : FX E s) (G : GS E I L s H locs) {i jn : Nat} {a : Nat → Int32} {I' : SI} {j x : Int32} (hsh : sh i = 11) (ha : I i = a) (hin : vp_in j 80) (hj : j.toNatClampNeg = jn) (hb : vp_nar .char x = x) (hI : up I i (upd a jn x) = I') (hdg : decode cc pc = .ok (.castore, 1))
    (kk : ∀ (H1 : Heap) (locs1 : List Loc), GS E I' L s H1 locs1 → W p l e R s m args below meth c H1 locs1 cells slots Q (F0 m (pc + 1) ls rest)) : W p l e R s m args below meth c H locs cells slots Q (F0 m pc ls (.int x :: .int j :: .ref (E.2.2.2 i) :: rest)) := by
  refine va_cast S.1 S.2.1 hX.1 G.1.1 G.1.2 G.2 i 2 (f := a) (n := 80) (s_at G hsh (by decide) ha rfl) rfl hin hdg (fun H1 locs1 hP hD hS => ?_)
  rw [hb, sw_set (sh_lt hsh (by decide)), hj, show Sum.inl (E.2.1 2, 80, Sum.inl (upd a jn x)) = cl E 11 i (upd a jn x) (L i) from rfl, cw_up hsh, hI] at hP hD
  exact kk H1 locs1 ⟨⟨hP, hD⟩, hS⟩
theorem s_alen (S : CallFix p m c cc nL s args Ts own) (hX : FX E s) (G : GS E I L s H locs) {i kd n : Nat} {x : Int32} (hsh : sh i = kd) (hcl : cl E kd i (I i) (L i) = .inl (E.2.1 0, n, .inl (I i))) (hkd : kd ≠ 99) (hx : Int32.ofNat n = x) (hdg : decode cc pc = .ok (.arraylength, 1))
    (kk : W p l e R s m args below meth c H locs cells slots Q (F0 m (pc + 1) ls (.int x :: rest))) : W p l e R s m args below meth c H locs cells slots Q (F0 m pc ls (.ref (E.2.2.2 i) :: rest)) :=
  va_alen S.1 S.2.1 hX.1 G.1.1 i 0 (s_at G hsh hkd rfl hcl) (ty := .int) rfl hx hdg kk
theorem s_copy (S : CallFix p m c cc nL s args Ts own) (hX : FX E s) (G : GS E I L s H locs) {i j kd n index : Nat} {a b : Nat → Int32} {I' : SI} {x : Int32} (hsi : sh i = kd) (hsj : sh j = kd) (ha : I i = a) (hb' : I j = b) (hci : ∀ f, cl E kd i f (L i) = .inl (E.2.1 0, n, .inl f)) (hcj : ∀ f, cl E kd j f (L j) = .inl (E.2.1 0, n, .inl f)) (hkd : kd ≠ 99) (hx0 : ¬ x < 0) (hx : x.toNatClampNeg = n) (hI : up I j (va_cpy a b 0 0 n) = I') (hlink : Cond.methodLink own index arraycopyName ∈ Ts) (hnat : Cond.native arraycopyName ∈ Ts) (hstat : Cond.static arraycopyName ∈ Ts) (hini : Cond.initialized "java/lang/System" ∈ Ts) (hsize : ls.size = nL) (hfr : 1 ≤ R.frames) (hlo : (rest.map fun v => v.category).sum + (nativeFrameWords "java/lang/System" "arraycopy" 5 + 11) ≤ R.locals) (hdg : decode cc pc = .ok (.invokestatic index, 3))
    (kk : ∀ (H1 : Heap) (locs1 : List Loc), GS E I' L s H1 locs1 → W p l e R s m args below meth c H1 locs1 cells slots Q (F0 m (pc + 3) ls rest)) : W p l e R s m args below meth c H locs cells slots Q (F0 m pc ls (.int x :: .int 0 :: .ref (E.2.2.2 j) :: .int 0 :: .ref (E.2.2.2 i) :: rest)) := by
  obtain ⟨hxe, hb, hml, hown, hts⟩ := S
  have h0 : (0 : Int32).toNatClampNeg = 0 := by decide
  refine va_copyi hxe hb (hml.trans hsize.symm) hown (hts _ hlink) (hts _ hnat) (hts _ hstat) (hts _ hini) hX.1 G.1.1 G.1.2 G.2 i j 0 0 (f := a) (g := b) (n0 := n) (n1 := n) (ty := .int) (s_at G hsi hkd ha (hci a)) (s_at G hsj hkd hb' (hcj b)) rfl rfl rfl (by decide) (by decide) hx0 (by rw [h0, hx]; omega) (by rw [h0, hx]; omega) (fun _ _ => rfl) hfr hlo hdg (fun H1 locs1 hP hD hS => ?_)
  rw [sw_set (sh_lt hsj hkd), h0, hx, ← hcj, cw_up hsj, hI] at hP hD
  exact kk H1 locs1 ⟨⟨hP, hD⟩, hS⟩
theorem s_call {a : Array Value} {st0 : List Value} {Rs : Option Value → SI → SL → Prop} (hr : va_Run p l e R s m args below meth c H locs cells slots 0 0 (F0 m pc ls st0) rest ((e_Qs E Rs) a) (e_A E)) (hS : va_S (e_A E) s.heap H locs)
    (kk : ∀ (v : Option Value) (I' : SI) (L' : SL) (H1 : Heap) (locs1 : List Loc), Rs v I' L' → GS E I' L' s H1 locs1 → W p l e R s m args below meth c H1 locs1 cells slots Q (F0 m (pc + 3) ls (v.toList ++ rest))) : W p l e R s m args below meth c H locs cells slots Q (F0 m pc ls st0) := by
  intro T hT X
  obtain ⟨v, st₀, t, T', L1, h0, X', hL, e1, e2, ⟨⟨v', I', L', hv, hR, hG⟩, hz, hk⟩, st⟩ := hr T hT X
  cases hv
  rw [h0] at hz hk
  obtain ⟨t2, a1, b1⟩ := kk v I' L' T'.heap (locs ++ L1) hR ⟨by rw [e1]; exact hG, Nat.le_trans hS.1 (by rw [e1]; exact hz), fun q h1 h2 => by rw [e1, hk q (Nat.lt_of_lt_of_le h1 hS.1) h2]; exact hS.2.1 q h1 h2, fun q hq => (List.mem_append.mp hq).elim (hS.2.2 q) (hL q)⟩ T' rfl X'
  exact ⟨t2, st t2 a1, b1⟩
theorem s_callV (S : CallFix p m c cc nL s args Ts own) (hX : FX E s) (G : GS E I L s H locs) {C : String} {y : MethodName} {bytes : ByteArray} {maxL : Nat} {ret : Option FieldType} {ws : List Cond} {rm : Room} {index n i kd ci : Nat} {q : vw_C} {fs : List Value} {As st0 : List Value} {Rs : Option Value → SI → SL → Prop} (hM : CS l y ws rm E (.ref (E.2.2.2 i) :: As) I L Rs) (cw' : CallW R s args own C index y bytes maxL ret ws rm 0 0 n) (hsh : sh i = kd) (hcl : cl E kd i (I i) (L i) = .inr (ci, fs)) (hc : vwCl[ci]? = some q) (hq : q.1 = C) (hkd : kd ≠ 99) (hn : As.length = n) (hsize : ls.size = nL) (hstack : st0 = As.reverse ++ .ref (E.2.2.2 i) :: rest) (hW : (rest.map fun v => v.category).sum ≤ 8) (hf : cells ≤ R.cells ∧ slots ≤ R.slots) (hdg : decode cc pc = .ok (.invokevirtual index, 3))
    (kk : ∀ (v : Option Value) (I' : SI) (L' : SL) (H1 : Heap) (locs1 : List Loc), Rs v I' L' → GS E I' L' s H1 locs1 → W p l e R s m args below meth c H1 locs1 cells slots Q (F0 m (pc + 3) ls (v.toList ++ rest))) : W p l e R s m args below meth c H locs cells slots Q (F0 m pc ls st0) := by
  subst hstack
  have hrecv := va_recv hX.1 G.1.1 hc (s_at G hsh hkd rfl hcl)
  rw [hq] at hrecv
  exact s_call (va_runV (As := As) (rest := rest) S hM cw' ⟨e_blind, hrecv, fun U hU hW => ⟨rfl, hX.warm hW hU G.2, by rw [hU]; exact G.1⟩⟩ rfl hn hsize rfl (lv_room hW) hdg hf) G.2 kk
theorem s_callS (S : CallFix p m c cc nL s args Ts own) (hX : FX E s) (G : GS E I L s H locs) {y : MethodName} {bytes : ByteArray} {maxL : Nat} {ret : Option FieldType} {ws : List Cond} {rm : Room} {index n : Nat} {As st0 : List Value} {Rs : Option Value → SI → SL → Prop} (hM : CS l y ws rm E As I L Rs) (cw' : CallB R s args own index y bytes maxL ret ws rm 0 0 n ∧ (Cond.static y).before args s = true) (hn : As.length = n) (hsize : ls.size = nL) (hstack : st0 = As.reverse ++ rest) (hW : (rest.map fun v => v.category).sum ≤ 8) (hf : cells ≤ R.cells ∧ slots ≤ R.slots) (hdg : decode cc pc = .ok (.invokestatic index, 3))
    (kk : ∀ (v : Option Value) (I' : SI) (L' : SL) (H1 : Heap) (locs1 : List Loc), Rs v I' L' → GS E I' L' s H1 locs1 → W p l e R s m args below meth c H1 locs1 cells slots Q (F0 m (pc + 3) ls (v.toList ++ rest))) : W p l e R s m args below meth c H locs cells slots Q (F0 m pc ls st0) := by
  subst hstack
  exact s_call (va_runS (As := As) (rest := rest) S hM cw' ⟨e_blind, fun U hU hW => ⟨rfl, hX.warm hW hU G.2, by rw [hU]; exact G.1⟩⟩ rfl hn hsize rfl (lv_room hW) hdg hf) G.2 kk
theorem s_callSN (S : CallFix p m c cc nL s args Ts own) (hX : FX E s) (G : GS E I L s H locs) {y : MethodName} {bytes : ByteArray} {maxL : Nat} {ret : Option FieldType} {ws : List Cond} {rm : Room} {index n : Nat} {As st0 : List Value} {Rs : Option Value → SI → SL → Prop} (hM : CS l y ws rm E As I L Rs) (cw' : va_CN R s args own index y "BridgeLegs" bytes maxL ret ws rm 0 0 n) (hst : Cond.static y ∈ Ts) (hn : As.length = n) (hsize : ls.size = nL) (hstack : st0 = As.reverse ++ rest) (hW : (rest.map fun v => v.category).sum ≤ 8) (hf : cells ≤ R.cells ∧ slots ≤ R.slots) (hdg : decode cc pc = .ok (.invokestatic index, 3))
    (kk : ∀ (v : Option Value) (I' : SI) (L' : SL) (H1 : Heap) (locs1 : List Loc), Rs v I' L' → GS E I' L' s H1 locs1 → W p l e R s m args below meth c H1 locs1 cells slots Q (F0 m (pc + 3) ls (v.toList ++ rest))) : W p l e R s m args below meth c H locs cells slots Q (F0 m pc ls st0) := by
  subst hstack
  exact s_call (va_runSN (As := As) (rest := rest) S hM ⟨cw', S.2.2.2.2 _ hst, trivial⟩ ⟨e_blind, fun U hU hW => ⟨rfl, hX.warm hW hU G.2, by rw [hU]; exact G.1⟩⟩ rfl hn hsize rfl (lv_room hW) hdg hf) G.2 kk
theorem s_iret (S : CallFix p m c cc nL s args Ts own) (G : GS E I L s H locs) {Rs : Option Value → SI → SL → Prop} {x : Int32} (hr : meth.sig.returnType = some .int) (hlk : meth.locks = false) (hdg : decode cc pc = .ok (.ireturn, 1)) (hR : Rs (some (.int x)) I L) : W p l e R s m args below meth c H locs cells slots (MQ below (e_Qs E Rs) args s cells slots (e_A E)) (F0 m pc ls [.int x]) :=
  W.iret S.1 S.2.1 hr (fun t ht _ => ⟨⟨_, _, _, rfl, hR, by rw [ht]; exact G.1⟩, G.2.F ht⟩) G.2.2.2 hdg hlk
theorem s_zret (S : CallFix p m c cc nL s args Ts own) (G : GS E I L s H locs) {Rs : Option Value → SI → SL → Prop} {x : Int32} (hr : meth.sig.returnType = some .boolean) (hlk : meth.locks = false) (hdg : decode cc pc = .ok (.ireturn, 1)) (hb : isb x) (hR : Rs (some (.int x)) I L) : W p l e R s m args below meth c H locs cells slots (MQ below (e_Qs E Rs) args s cells slots (e_A E)) (F0 m pc ls [.int x]) :=
  W.zret S.1 S.2.1 hr (isb_nar hb) (fun t ht _ => ⟨⟨_, _, _, rfl, hR, by rw [ht]; exact G.1⟩, G.2.F ht⟩) G.2.2.2 hdg hlk
theorem s_cret (S : CallFix p m c cc nL s args Ts own) (G : GS E I L s H locs) {Rs : Option Value → SI → SL → Prop} {x : Int32} (hr : meth.sig.returnType = some .char) (hlk : meth.locks = false) (hdg : decode cc pc = .ok (.ireturn, 1)) (hb : narrow .char (.int x) = .int x) (hR : Rs (some (.int x)) I L) : W p l e R s m args below meth c H locs cells slots (MQ below (e_Qs E Rs) args s cells slots (e_A E)) (F0 m pc ls [.int x]) :=
  W.zret S.1 S.2.1 hr hb (fun t ht _ => ⟨⟨_, _, _, rfl, hR, by rw [ht]; exact G.1⟩, G.2.F ht⟩) G.2.2.2 hdg hlk
theorem s_lret (S : CallFix p m c cc nL s args Ts own) (G : GS E I L s H locs) {Rs : Option Value → SI → SL → Prop} {x : Int64} (hr : meth.sig.returnType = some .long) (hlk : meth.locks = false) (hdg : decode cc pc = .ok (.lreturn, 1)) (hR : Rs (some (.long x)) I L) : W p l e R s m args below meth c H locs cells slots (MQ below (e_Qs E Rs) args s cells slots (e_A E)) (F0 m pc ls [.long x]) :=
  W.lret S.1 S.2.1 hr (fun t ht _ => ⟨⟨_, _, _, rfl, hR, by rw [ht]; exact G.1⟩, G.2.F ht⟩) G.2.2.2 hdg hlk
theorem s_vret (S : CallFix p m c cc nL s args Ts own) (G : GS E I L s H locs) {Rs : Option Value → SI → SL → Prop} (hr : meth.sig.returnType = none) (hlk : meth.locks = false) (hdg : decode cc pc = .ok (.return_, 1)) (hR : Rs none I L) : W p l e R s m args below meth c H locs cells slots (MQ below (e_Qs E Rs) args s cells slots (e_A E)) (F0 m pc ls []) :=
  W.vret S.1 S.2.1 hr (fun t ht _ => ⟨⟨_, _, _, rfl, hR, by rw [ht]; exact G.1⟩, G.2.F ht⟩) G.2.2.2 hdg hlk
theorem s_aret (S : CallFix p m c cc nL s args Ts own) (G : GS E I L s H locs) {Rs : Option Value → SI → SL → Prop} {a : Nat} {n : String} (hr : meth.sig.returnType = some (.object n)) (hlk : meth.locks = false) (hdg : decode cc pc = .ok (.areturn, 1)) (hR : Rs (some (.ref a)) I L) : W p l e R s m args below meth c H locs cells slots (MQ below (e_Qs E Rs) args s cells slots (e_A E)) (F0 m pc ls [.ref a]) :=
  W.aret S.1 S.2.1 hr (Or.inl ⟨_, rfl⟩) (Or.inr ⟨_, rfl⟩) (fun t ht _ => ⟨⟨_, _, _, rfl, hR, by rw [ht]; exact G.1⟩, G.2.F ht⟩) G.2.2.2 hdg hlk
/-- a static table's reference, and its values -/
theorem s_gets (S : CallFix p m c cc nL s args Ts own) (hX : FX E s) (G : GS E I L s H locs) {index : Nat} (i : Nat) (hi : i < 3) (hlink : (own, index, "BridgeLegs", e_nm i, "[I") ∈ e_nF) (hdg : decode cc pc = .ok (.getstatic index, 3))
    (kk : ∀ t : Nat, va_T .int t 10 (fun j => .int (e_tab i j)) (e_A E) s s.heap → W p l e R s m args below meth c H locs cells slots Q (F0 m (pc + 3) ls (.ref t :: rest))) : W p l e R s m args below meth c H locs cells slots Q (F0 m pc ls rest) := by
  obtain ⟨t, hz, ht⟩ := hX.2.1 i hi
  exact va_getsN (host := "BridgeLegs") S.1 S.2.1 hz G.2 S.2.2.2.1 (va_Nw.use rfl (hX.2.2.1.1 _ hlink)) (fun _ h => h) hdg (kk t ht)
theorem s_tald (S : CallFix p m c cc nL s args Ts own) (G : GS E I L s H locs) {t i : Nat} {j x : Int32} (hT : va_T .int t 10 (fun j => .int (e_tab i j)) (e_A E) s s.heap) (hin : vp_in j 10) (hx : e_tab i j.toNatClampNeg = x) (hdg : decode cc pc = .ok (.iaload, 1))
    (kk : W p l e R s m args below meth c H locs cells slots Q (F0 m (pc + 1) ls (.int x :: rest))) : W p l e R s m args below meth c H locs cells slots Q (F0 m pc ls (.int j :: .ref t :: rest)) :=
  va_ti S.1 S.2.1 hT G.2 hin (by rw [hx]) hdg kk
/-- a cut: what is reached from several sides, or again and again -/
theorem s_cut {α : Type} (P : α → SI → SL → Prop) (lv : α → List (Nat × Value)) (J : Nat) (st : α → List Value) {g : JFrame}
    (k1 : (∀ (x : α) (I' : SI) (L' : SL) (H1 : Heap) (locs1 : List Loc) (ls1 : Array Slot), P x I' L' → GS E I' L' s H1 locs1 → lv_has ls1 nL (lv x) → W p l e R s m args below meth c H1 locs1 cells slots Q (F0 m J ls1 (st x))) → W p l e R s m args below meth c H locs cells slots Q g)
    (k2 : ∀ (x : α) (I' : SI) (L' : SL) (H1 : Heap) (locs1 : List Loc) (ls1 : Array Slot), P x I' L' → GS E I' L' s H1 locs1 → lv_has ls1 nL (lv x) → W p l e R s m args below meth c H1 locs1 cells slots Q (F0 m J ls1 (st x))) : W p l e R s m args below meth c H locs cells slots Q g := k1 k2
/-- a loop, by what is left -/
theorem s_loop {α : Type} (P : Nat → α → SI → SL → Prop) (lv : α → List (Nat × Value)) (J : Nat) (st : α → List Value)
    (k : ∀ (n : Nat), (∀ (n' : Nat), n' < n → ∀ (x : α) (I' : SI) (L' : SL) (H1 : Heap) (locs1 : List Loc) (ls1 : Array Slot), P n' x I' L' → GS E I' L' s H1 locs1 → lv_has ls1 nL (lv x) → W p l e R s m args below meth c H1 locs1 cells slots Q (F0 m J ls1 (st x))) →
      ∀ (x : α) (I' : SI) (L' : SL) (H1 : Heap) (locs1 : List Loc) (ls1 : Array Slot), P n x I' L' → GS E I' L' s H1 locs1 → lv_has ls1 nL (lv x) → W p l e R s m args below meth c H1 locs1 cells slots Q (F0 m J ls1 (st x)))
    (n : Nat) (x : α) (hP : P n x I L) (G : GS E I L s H locs) (hl : lv_has ls nL (lv x)) : W p l e R s m args below meth c H locs cells slots Q (F0 m J ls (st x)) := by
  have key : ∀ (n : Nat) (x : α) (I' : SI) (L' : SL) (H1 : Heap) (locs1 : List Loc) (ls1 : Array Slot), P n x I' L' → GS E I' L' s H1 locs1 → lv_has ls1 nL (lv x) → W p l e R s m args below meth c H1 locs1 cells slots Q (F0 m J ls1 (st x)) := by
    intro n
    induction n using Nat.strongRecOn with
    | ind n ih => exact fun x I' L' H1 locs1 ls1 hP G hl => k n (fun n' hn => ih n' hn) x I' L' H1 locs1 ls1 hP G hl
  exact key n x I L H locs ls hP G hl
end ROWS2
