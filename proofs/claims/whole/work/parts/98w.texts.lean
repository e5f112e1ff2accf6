theorem fpG_nn {g : Nat → Int32} {n : Nat} : fpG g n (n - n) n 0 = -1 := by
  rw [Nat.sub_self]
  show (if (0 : Int32) = 0 then (-1 : Int32) else nI n) = -1
  rw [if_pos rfl]
def obeyM (x c : Int32) : Int32 := if c = 111 then 0 else if c = 104 then 1 else if c = 108 then 2 else x
def c4F (D lt : Nat → Int32) : Nat → Int32 := upd (upd (upd (upd D 8 (if lt 0 = 3 then D 8 else lt 0)) 16 (if lt 1 = 3 then D 16 else lt 1)) 24 (if lt 2 = 3 then D 24 else lt 2)) 32 (if lt 3 = 3 then D 32 else lt 3)
/-- the pattern is played over the model's row: the row, the sizes, the next leg -/
def plM (g d : Nat → Int32) (lx : Nat → Int64) : Nat → (Nat → Int32) × (Nat → Int64) × Nat
  | 0 => (d, lx, 0)
  | j + 1 =>
    let r := plM g d lx j
    if g j = 59 then (gsN r.1 (sbL g j 0 1).toNatClampNeg, gsNX r.1 r.2.1 (sbL g j 0 1).toNatClampNeg, 0)
    else if r.2.2 < 4 then (upd r.1 (8 + 8 * r.2.2) (obeyM (r.1 (8 + 8 * r.2.2)) (g j)), r.2.1, r.2.2 + 1) else (r.1, r.2.1, r.2.2)
theorem plM_semi {g d : Nat → Int32} {lx : Nat → Int64} {j : Nat} (h : g j = 59) : plM g d lx (j + 1) = (gsN (plM g d lx j).1 (sbL g j 0 1).toNatClampNeg, gsNX (plM g d lx j).1 (plM g d lx j).2.1 (sbL g j 0 1).toNatClampNeg, 0) := by
  show (if g j = 59 then _ else _) = _
  rw [if_pos h]
theorem plM_leg {g d : Nat → Int32} {lx : Nat → Int64} {j : Nat} (h : ¬ g j = 59) (h4 : (plM g d lx j).2.2 < 4) : plM g d lx (j + 1) = (upd (plM g d lx j).1 (8 + 8 * (plM g d lx j).2.2) (obeyM ((plM g d lx j).1 (8 + 8 * (plM g d lx j).2.2)) (g j)), (plM g d lx j).2.1, (plM g d lx j).2.2 + 1) := by
  show (if g j = 59 then _ else _) = _
  rw [if_neg h, if_pos h4]
theorem plM_more {g d : Nat → Int32} {lx : Nat → Int64} {j : Nat} (h : ¬ g j = 59) (h4 : ¬ (plM g d lx j).2.2 < 4) : plM g d lx (j + 1) = plM g d lx j := by
  show (if g j = 59 then _ else _) = _
  rw [if_neg h, if_neg h4]
theorem obey_let {x c : Int32} (h : ¬ letF c = -1) : (if letF c = 3 then x else letF c) = obeyM x c := by
  unfold obeyM
  unfold letF at h ⊢
  by_cases a : c = 111
  · subst a
    rfl
  · rw [if_neg a] at h ⊢
    rw [if_neg a]
    by_cases b : c = 104
    · subst b
      rfl
    · rw [if_neg b] at h ⊢
      rw [if_neg b]
      by_cases e : c = 108
      · subst e
        rfl
      · rw [if_neg e] at h ⊢
        rw [if_neg e]
        by_cases f : c = 61
        · rw [if_pos f, if_pos rfl]
        · rw [if_neg f] at h
          exact absurd rfl h
theorem plM_skip {g d : Nat → Int32} {lx : Nat → Int64} {a : Nat} (h4 : (plM g d lx a).2.2 = 4) : ∀ r, (∀ j, a ≤ j → j < a + r → ¬ g j = 59) → plM g d lx (a + r) = plM g d lx a := by
  intro r
  induction r with
  | zero => exact fun _ => rfl
  | succ r ih =>
    intro h
    have e := ih (fun j h1 h2 => h j h1 (by omega))
    rw [show a + (r + 1) = (a + r) + 1 from rfl, plM_more (h _ (by omega) (by omega)) (by rw [e, h4]; decide), e]
theorem plM_part {g d lt : Nat → Int32} {lx : Nat → Int64} {n p p' N : Nat} {m : Int32} (hp : p < n) (h : RdOk g n p p' m) (hm : m = nI N) (hN : N < 2 ^ 31) (h0 : (plM g d lx p).2.2 = 0) (hlt : ∀ i, i < 4 → lt i = letF (sgF g n (p + i))) : plM g d lx p' = (gsN (c4F (plM g d lx p).1 lt) N, gsNX (c4F (plM g d lx p).1 lt) (plM g d lx p).2.1 N, 0) := by
  obtain ⟨a1, a2, a3, a4, a5, a6, a7, a8⟩ := rd_ok hp h
  have l : ∀ i, i < 4 → lt i = letF (g (p + i)) := fun i hi => by rw [hlt i hi, sgF_lt (by omega)]
  have nl : ∀ i, i < 4 → ¬ g (p + i) = 59 := fun i hi => (let_nd (a8 i hi)).2
  generalize hr : plM g d lx p = r at *
  obtain ⟨D, X, lg⟩ := r
  have h0 : lg = 0 := h0
  subst h0
  have e1 : plM g d lx (p + 1) = (upd D 8 (obeyM (D 8) (g p)), X, 1) := by
    rw [plM_leg (show ¬ g p = 59 from nl 0 (by decide)) (by rw [hr]; show 0 < 4; decide), hr]
    rfl
  have e2 : plM g d lx (p + 2) = (upd (upd D 8 (obeyM (D 8) (g p))) 16 (obeyM (D 16) (g (p + 1))), X, 2) := by
    rw [show p + 2 = (p + 1) + 1 from rfl, plM_leg (nl 1 (by decide)) (by rw [e1]; show 1 < 4; decide), e1]
    rfl
  have e3 : plM g d lx (p + 3) = (upd (upd (upd D 8 (obeyM (D 8) (g p))) 16 (obeyM (D 16) (g (p + 1)))) 24 (obeyM (D 24) (g (p + 2))), X, 3) := by
    rw [show p + 3 = (p + 2) + 1 from rfl, plM_leg (nl 2 (by decide)) (by rw [e2]; show 2 < 4; decide), e2]
    rfl
  have e4 : plM g d lx (p + 4) = (c4F D lt, X, 4) := by
    rw [show p + 4 = (p + 3) + 1 from rfl, plM_leg (nl 3 (by decide)) (by rw [e3]; show 3 < 4; decide), e3]
    unfold c4F
    rw [l 0 (by decide), l 1 (by decide), l 2 (by decide), l 3 (by decide), obey_let (a8 0 (by decide)), obey_let (a8 1 (by decide)), obey_let (a8 2 (by decide)), obey_let (a8 3 (by decide))]
    rfl
  have e5 := plM_skip (g := g) (d := d) (lx := lx) (a := p + 4) (by rw [e4]) (p' - 1 - (p + 4)) (fun j h1 h2 => a5 j (by omega) (by omega))
  rw [show p + 4 + (p' - 1 - (p + 4)) = p' - 1 by omega, e4] at e5
  rw [show p' = (p' - 1) + 1 by omega, plM_semi a6, e5, a7, hm, nI_clamp hN]
theorem c4_cmds {D lt : Nat → Int32} {g : Nat → Int32} {n p : Nat} (h : cmdsM D) (hlt : ∀ i, i < 4 → lt i = letF (sgF g n (p + i))) (h4 : Rd4 g n p) : cmdsM (c4F D lt) := by
  obtain ⟨a, b, c, e⟩ := h
  have q : ∀ (x : Int32) (ch : Int32), (x = 0 ∨ x = 1 ∨ x = 2) → ¬ letF ch = -1 → (if letF ch = 3 then x else letF ch) = 0 ∨ (if letF ch = 3 then x else letF ch) = 1 ∨ (if letF ch = 3 then x else letF ch) = 2 := by
    intro x ch hx hc
    rw [obey_let hc]
    unfold obeyM
    split
    · exact Or.inl rfl
    · split
      · exact Or.inr (Or.inl rfl)
      · split
        · exact Or.inr (Or.inr rfl)
        · exact hx
  obtain ⟨r0, r1, r2, r3⟩ := h4
  refine ⟨?_, ?_, ?_, ?_⟩
  · show (if lt 0 = 3 then D 8 else lt 0) = 0 ∨ (if lt 0 = 3 then D 8 else lt 0) = 1 ∨ (if lt 0 = 3 then D 8 else lt 0) = 2
    rw [hlt 0 (by decide)]
    exact q _ _ a r0
  · show (if lt 1 = 3 then D 16 else lt 1) = 0 ∨ (if lt 1 = 3 then D 16 else lt 1) = 1 ∨ (if lt 1 = 3 then D 16 else lt 1) = 2
    rw [hlt 1 (by decide)]
    exact q _ _ b r1
  · show (if lt 2 = 3 then D 24 else lt 2) = 0 ∨ (if lt 2 = 3 then D 24 else lt 2) = 1 ∨ (if lt 2 = 3 then D 24 else lt 2) = 2
    rw [hlt 2 (by decide)]
    exact q _ _ c r2
  · show (if lt 3 = 3 then D 32 else lt 3) = 0 ∨ (if lt 3 = 3 then D 32 else lt 3) = 1 ∨ (if lt 3 = 3 then D 32 else lt 3) = 2
    rw [hlt 3 (by decide)]
    exact q _ _ e r3
set_option maxHeartbeats 4000000 in
set_option maxRecDepth 100000 in
theorem k_X9_wrong_ok (l : Launch) (E : Ev) {I : SI} {L : SL} (mx : Nat → Int32) (g : Nat → Int32) (lt : Nat → Int32) (n : Nat) (e_mx : I (161) = mx) (e_g : I (166) = g) (e_lt : I (167) = lt) (hx8 : mx 8 = nI n) (hn80 : n ≤ 80) (ht : fpG g n n 0 0 = -1) : CS l yX9_wrong wsX9_wrong ({ frames := 2, cells := 0, slots := 0, locals := 47 }) E [.ref (E.2.2.2 161)] I L (fun vv I' L' => vv = some (.int (-2000000004 : Int32)) ∧ ∃ mx' lt', L' = L ∧ I' = (up (up I 167 lt') 161 mx') ∧ (∀ f, f ≠ 9 → f ≠ 10 → f ≠ 11 → mx' f = mx f)) := by
  refine CS.of (cc := cX9_wrong) (maxL := 1) (ret := (some .int)) (by decide) rfl (Nat.le_of_ble_eq_true rfl) ?_
  intro pg en sg mg below meth cg ls S hr hlk hX G hl
  have S : CallFix pg mg cg cX9_wrong 1 sg _ wsX9_wrong RX9 := S
  have hl : lv_has ls 1 [(0, .ref (E.2.2.2 161))] := hl
  refine lv_aload_n S.1 S.2.1 dX9_wrong_0 rfl (lv_at hl 0 rfl) ?_
  refine lv_iconst (v := (0 : Int32)) S.1 S.2.1 dX9_wrong_1 (by decide) ?_
  refine s_put S hX G (i := 161) (kd := 9) (a := mx) (a' := (upd mx 9 (0 : Int32))) (I' := (up I 161 (upd mx 9 (0 : Int32)))) (v := .int (0 : Int32)) (ty := .int) (ty0 := tyX9) (C := RX9) (T := TX9) (N := 13) 9 (rfl : sh 161 = 9) e_mx rfl rfl rfl (by decide) rfl (fun _ h => (List.mem_cons_of_mem _ (List.mem_append_right _ h))) tyX9_ok nmX9 (by decide) (List.mem_of_getElem? (i := 1) rfl) (fun _ h => h) rfl (by decide +kernel) rfl rfl (Nat.le_of_ble_eq_true rfl) dX9_wrong_2 (fun H locs G => ?_)
  refine s_loop (α := Nat × (Nat → Int32) × (Nat → Int32)) (nL := 1) (E := E) (fun nn x I' L' => nn = n - x.1 ∧ x.1 ≤ n ∧ (∀ f, f ≠ 9 → f ≠ 10 → f ≠ 11 → x.2.1 f = mx f) ∧ x.2.1 9 = nI x.1 ∧ fpG g n (n - x.1) x.1 0 = fpG g n n 0 0 ∧ I' = (up (up I 167 x.2.2) 161 x.2.1) ∧ L' = L) (fun x => [(0, .ref (E.2.2.2 161))]) 5 (fun x => []) (fun nn ih_1 x I1 L1 H locs ls hP G hl => ?_) _ (0, ((upd mx 9 (0 : Int32))), (lt)) ⟨rfl, (Nat.zero_le _), (fun f a b c => (Eq.trans (upd_ne a) rfl)), rfl, (by rw [Nat.sub_zero]), (st_eq2 ((up_ne (by decide)).trans e_lt) up_eq (fun _ g0 g1 => (up_ne g1))), rfl⟩ G (lv_sub hl [0] rfl)
  obtain ⟨p, mz, lt⟩ := x
  obtain ⟨hn, hp, hmz, h9, hfp, hIc, hLc⟩ := hP
  have hn : nn = n - p := hn
  obtain ⟨I_b, rfl⟩ : ∃ z, z = I1 := ⟨I1, rfl⟩
  obtain ⟨L_b, rfl⟩ : ∃ z, z = L1 := ⟨L1, rfl⟩
  have hp : p ≤ n := hp
  have hmz : (∀ f, f ≠ 9 → f ≠ 10 → f ≠ 11 → mz f = mx f) := hmz
  have h9 : mz 9 = nI p := h9
  have hfp : fpG g n (n - p) p 0 = fpG g n n 0 0 := hfp
  have hIc : I_b = (up (up I 167 lt) 161 mz) := hIc
  have hLc : L_b = L := hLc
  have hl : lv_has ls 1 [(0, .ref (E.2.2.2 161))] := hl
  refine W.eq (g2 := F0 mg 5 ls []) rfl ?_
  have G : GS E (up (up I 167 lt) 161 mz) L sg H locs := G.same hIc hLc
  rcases Nat.lt_or_ge p n with hlt | hge
  · have hlt : p < n := hlt
    refine lv_aload_n S.1 S.2.1 dX9_wrong_5 rfl (lv_at hl 0 rfl) ?_
    refine s_get S hX G (i := 161) (kd := 9) (a := mz) (v := .int (mz 9)) (C := RX9) (T := TX9) (N := 13) 9 (rfl : sh 161 = 9) up_eq rfl rfl (by decide) rfl (fun _ h => (List.mem_cons_of_mem _ (List.mem_append_right _ h))) (by decide) (List.mem_of_getElem? (i := 1) rfl) (fun _ h => h) dX9_wrong_6 ?_
    refine s_conv (y := (nI p)) h9 ?_
    refine lv_aload_n S.1 S.2.1 dX9_wrong_9 rfl (lv_at hl 0 rfl) ?_
    refine s_get S hX G (i := 161) (kd := 9) (a := mz) (v := .int (mz 8)) (C := RX9) (T := TX9) (N := 13) 8 (rfl : sh 161 = 9) up_eq rfl rfl (by decide) rfl (fun _ h => (List.mem_cons_of_mem _ (List.mem_append_right _ h))) (by decide) (List.mem_of_getElem? (i := 2) rfl) (fun _ h => h) dX9_wrong_10 ?_
    refine s_conv (y := (nI n)) (Eq.trans (hmz 8 (by decide) (by decide) (by decide)) hx8) ?_
    refine lv_icmp_ge (tgt := 28) S.1 S.2.1 dX9_wrong_13 (by decide) (fun h => absurd h (nI_ge hlt (by omega))) (fun _ => ?_)
    refine lv_aload_n S.1 S.2.1 dX9_wrong_16 rfl (lv_at hl 0 rfl) ?_
    refine s_callV (C := RX9) (As := []) (rest := []) (i := 161) (kd := 9) S hX G (k_X9_reads l E mz g lt n p up_eq ((up_ne (by decide)).trans ((up_ne (by decide)).trans e_g)) ((up_ne (by decide)).trans up_eq) (Eq.trans (hmz 8 (by decide) (by decide) (by decide)) hx8) h9 hn80 hp) (cwV (bytes := cX9_reads) (maxL := 3) (ret := (some .boolean)) 0 S.2.2.2.2 gX9_wrong_X9_reads rfl rfl rfl (by decide +kernel) ⟨Nat.le_of_ble_eq_true rfl, Nat.le_of_ble_eq_true rfl⟩) (rfl : sh 161 = 9) rfl rfl rfl (by decide) rfl hl.1 rfl (Nat.le_of_ble_eq_true rfl) ⟨Nat.zero_le _, Nat.zero_le _⟩ dX9_wrong_17 (fun v I2 L2 H locs hR G => ?_)
    obtain ⟨mz2, lt2, hL2, hI2, hfr, hRd⟩ := hR
    have G : GS E (up (up I 167 lt2) 161 mz2) L sg H locs := G.same (hI2.trans (st_eq2 ((up_ne (by decide)).trans up_eq) up_eq (fun _ g0 g1 => ((up_ne g1).trans ((up_ne g0).trans ((up_ne g1).trans (up_ne g0))))))) hL2
    have hmz2 : (∀ f, f ≠ 9 → f ≠ 10 → f ≠ 11 → mz2 f = mx f) := fun f a b c => Eq.trans (hfr f a b c) (hmz f a b c)
    rcases hRd with ⟨hv, ⟨p2, hok, h92⟩, hlt2⟩ | ⟨hv, q, hno, h10⟩
    · subst hv
      refine W.eq (g2 := F0 mg 20 ls [.int (1 : Int32)]) rfl ?_
      refine lv_if_ne (tgt := 5) S.1 S.2.1 dX9_wrong_20 (by decide) (fun _ => ?_) (fun h => absurd h (by decide))
      exact ih_1 _ (by have := rd_ok hlt hok; omega) (p2, mz2, lt2) _ _ _ _ _ ⟨rfl, (rd_ok hlt hok).2.1, hmz2, h92, ((rd_ok hlt hok).2.2.1.symm.trans hfp), rfl, rfl⟩ G (lv_sub hl [0] rfl)
    · exact absurd (Eq.trans (rd_no hlt hno).1.symm (Eq.trans hfp ht)) (nI_ne_m1 (by have := (rd_no hlt hno).2; omega))
  · have hpn : n = p := by omega
    subst hpn
    refine lv_aload_n S.1 S.2.1 dX9_wrong_5 rfl (lv_at hl 0 rfl) ?_
    refine s_get S hX G (i := 161) (kd := 9) (a := mz) (v := .int (mz 9)) (C := RX9) (T := TX9) (N := 13) 9 (rfl : sh 161 = 9) up_eq rfl rfl (by decide) rfl (fun _ h => (List.mem_cons_of_mem _ (List.mem_append_right _ h))) (by decide) (List.mem_of_getElem? (i := 1) rfl) (fun _ h => h) dX9_wrong_6 ?_
    refine s_conv (y := (nI n)) h9 ?_
    refine lv_aload_n S.1 S.2.1 dX9_wrong_9 rfl (lv_at hl 0 rfl) ?_
    refine s_get S hX G (i := 161) (kd := 9) (a := mz) (v := .int (mz 8)) (C := RX9) (T := TX9) (N := 13) 8 (rfl : sh 161 = 9) up_eq rfl rfl (by decide) rfl (fun _ h => (List.mem_cons_of_mem _ (List.mem_append_right _ h))) (by decide) (List.mem_of_getElem? (i := 2) rfl) (fun _ h => h) dX9_wrong_10 ?_
    refine s_conv (y := (nI n)) (Eq.trans (hmz 8 (by decide) (by decide) (by decide)) hx8) ?_
    refine lv_icmp_ge (tgt := 28) S.1 S.2.1 dX9_wrong_13 (by decide) (fun _ => ?_) (fun h => absurd (nI_le (by omega) (by omega)) h)
    refine lv_ldc (v := (-2000000004 : Int32)) S.1 S.2.1 S.2.2.2.1 (S.2.2.2.2 _ (List.mem_of_getElem? (i := 4) rfl)) dX9_wrong_28 ?_
    refine s_iret (x := (-2000000004 : Int32)) S G hr hlk dX9_wrong_30 ?_
    exact ⟨rfl, mz, lt, rfl, rfl, hmz⟩
set_option maxHeartbeats 4000000 in
set_option maxRecDepth 100000 in
theorem k_X9_wrong_no (l : Launch) (E : Ev) {I : SI} {L : SL} (mx : Nat → Int32) (g : Nat → Int32) (lt : Nat → Int32) (n : Nat) (e_mx : I (161) = mx) (e_g : I (166) = g) (e_lt : I (167) = lt) (hx8 : mx 8 = nI n) (hn80 : n ≤ 80) (ht : ¬ fpG g n n 0 0 = -1) : CS l yX9_wrong wsX9_wrong ({ frames := 2, cells := 0, slots := 0, locals := 47 }) E [.ref (E.2.2.2 161)] I L (fun vv I' L' => (∃ q, q ≤ n ∧ vv = some (.int (nI q)) ∧ fpG g n n 0 0 = nI q) ∧ ∃ mx' lt', L' = L ∧ I' = (up (up I 167 lt') 161 mx') ∧ (∀ f, f ≠ 9 → f ≠ 10 → f ≠ 11 → mx' f = mx f)) := by
  refine CS.of (cc := cX9_wrong) (maxL := 1) (ret := (some .int)) (by decide) rfl (Nat.le_of_ble_eq_true rfl) ?_
  intro pg en sg mg below meth cg ls S hr hlk hX G hl
  have S : CallFix pg mg cg cX9_wrong 1 sg _ wsX9_wrong RX9 := S
  have hl : lv_has ls 1 [(0, .ref (E.2.2.2 161))] := hl
  refine lv_aload_n S.1 S.2.1 dX9_wrong_0 rfl (lv_at hl 0 rfl) ?_
  refine lv_iconst (v := (0 : Int32)) S.1 S.2.1 dX9_wrong_1 (by decide) ?_
  refine s_put S hX G (i := 161) (kd := 9) (a := mx) (a' := (upd mx 9 (0 : Int32))) (I' := (up I 161 (upd mx 9 (0 : Int32)))) (v := .int (0 : Int32)) (ty := .int) (ty0 := tyX9) (C := RX9) (T := TX9) (N := 13) 9 (rfl : sh 161 = 9) e_mx rfl rfl rfl (by decide) rfl (fun _ h => (List.mem_cons_of_mem _ (List.mem_append_right _ h))) tyX9_ok nmX9 (by decide) (List.mem_of_getElem? (i := 1) rfl) (fun _ h => h) rfl (by decide +kernel) rfl rfl (Nat.le_of_ble_eq_true rfl) dX9_wrong_2 (fun H locs G => ?_)
  refine s_loop (α := Nat × (Nat → Int32) × (Nat → Int32)) (nL := 1) (E := E) (fun nn x I' L' => nn = n - x.1 ∧ x.1 ≤ n ∧ (∀ f, f ≠ 9 → f ≠ 10 → f ≠ 11 → x.2.1 f = mx f) ∧ x.2.1 9 = nI x.1 ∧ fpG g n (n - x.1) x.1 0 = fpG g n n 0 0 ∧ I' = (up (up I 167 x.2.2) 161 x.2.1) ∧ L' = L) (fun x => [(0, .ref (E.2.2.2 161))]) 5 (fun x => []) (fun nn ih_1 x I1 L1 H locs ls hP G hl => ?_) _ (0, ((upd mx 9 (0 : Int32))), (lt)) ⟨rfl, (Nat.zero_le _), (fun f a b c => (Eq.trans (upd_ne a) rfl)), rfl, (by rw [Nat.sub_zero]), (st_eq2 ((up_ne (by decide)).trans e_lt) up_eq (fun _ g0 g1 => (up_ne g1))), rfl⟩ G (lv_sub hl [0] rfl)
  obtain ⟨p, mz, lt⟩ := x
  obtain ⟨hn, hp, hmz, h9, hfp, hIc, hLc⟩ := hP
  have hn : nn = n - p := hn
  obtain ⟨I_b, rfl⟩ : ∃ z, z = I1 := ⟨I1, rfl⟩
  obtain ⟨L_b, rfl⟩ : ∃ z, z = L1 := ⟨L1, rfl⟩
  have hp : p ≤ n := hp
  have hmz : (∀ f, f ≠ 9 → f ≠ 10 → f ≠ 11 → mz f = mx f) := hmz
  have h9 : mz 9 = nI p := h9
  have hfp : fpG g n (n - p) p 0 = fpG g n n 0 0 := hfp
  have hIc : I_b = (up (up I 167 lt) 161 mz) := hIc
  have hLc : L_b = L := hLc
  have hl : lv_has ls 1 [(0, .ref (E.2.2.2 161))] := hl
  refine W.eq (g2 := F0 mg 5 ls []) rfl ?_
  have G : GS E (up (up I 167 lt) 161 mz) L sg H locs := G.same hIc hLc
  rcases Nat.lt_or_ge p n with hlt | hge
  · have hlt : p < n := hlt
    refine lv_aload_n S.1 S.2.1 dX9_wrong_5 rfl (lv_at hl 0 rfl) ?_
    refine s_get S hX G (i := 161) (kd := 9) (a := mz) (v := .int (mz 9)) (C := RX9) (T := TX9) (N := 13) 9 (rfl : sh 161 = 9) up_eq rfl rfl (by decide) rfl (fun _ h => (List.mem_cons_of_mem _ (List.mem_append_right _ h))) (by decide) (List.mem_of_getElem? (i := 1) rfl) (fun _ h => h) dX9_wrong_6 ?_
    refine s_conv (y := (nI p)) h9 ?_
    refine lv_aload_n S.1 S.2.1 dX9_wrong_9 rfl (lv_at hl 0 rfl) ?_
    refine s_get S hX G (i := 161) (kd := 9) (a := mz) (v := .int (mz 8)) (C := RX9) (T := TX9) (N := 13) 8 (rfl : sh 161 = 9) up_eq rfl rfl (by decide) rfl (fun _ h => (List.mem_cons_of_mem _ (List.mem_append_right _ h))) (by decide) (List.mem_of_getElem? (i := 2) rfl) (fun _ h => h) dX9_wrong_10 ?_
    refine s_conv (y := (nI n)) (Eq.trans (hmz 8 (by decide) (by decide) (by decide)) hx8) ?_
    refine lv_icmp_ge (tgt := 28) S.1 S.2.1 dX9_wrong_13 (by decide) (fun h => absurd h (nI_ge hlt (by omega))) (fun _ => ?_)
    refine lv_aload_n S.1 S.2.1 dX9_wrong_16 rfl (lv_at hl 0 rfl) ?_
    refine s_callV (C := RX9) (As := []) (rest := []) (i := 161) (kd := 9) S hX G (k_X9_reads l E mz g lt n p up_eq ((up_ne (by decide)).trans ((up_ne (by decide)).trans e_g)) ((up_ne (by decide)).trans up_eq) (Eq.trans (hmz 8 (by decide) (by decide) (by decide)) hx8) h9 hn80 hp) (cwV (bytes := cX9_reads) (maxL := 3) (ret := (some .boolean)) 0 S.2.2.2.2 gX9_wrong_X9_reads rfl rfl rfl (by decide +kernel) ⟨Nat.le_of_ble_eq_true rfl, Nat.le_of_ble_eq_true rfl⟩) (rfl : sh 161 = 9) rfl rfl rfl (by decide) rfl hl.1 rfl (Nat.le_of_ble_eq_true rfl) ⟨Nat.zero_le _, Nat.zero_le _⟩ dX9_wrong_17 (fun v I2 L2 H locs hR G => ?_)
    obtain ⟨mz2, lt2, hL2, hI2, hfr, hRd⟩ := hR
    have G : GS E (up (up I 167 lt2) 161 mz2) L sg H locs := G.same (hI2.trans (st_eq2 ((up_ne (by decide)).trans up_eq) up_eq (fun _ g0 g1 => ((up_ne g1).trans ((up_ne g0).trans ((up_ne g1).trans (up_ne g0))))))) hL2
    have hmz2 : (∀ f, f ≠ 9 → f ≠ 10 → f ≠ 11 → mz2 f = mx f) := fun f a b c => Eq.trans (hfr f a b c) (hmz f a b c)
    rcases hRd with ⟨hv, ⟨p2, hok, h92⟩, hlt2⟩ | ⟨hv, q, hno, h10⟩
    · subst hv
      refine W.eq (g2 := F0 mg 20 ls [.int (1 : Int32)]) rfl ?_
      refine lv_if_ne (tgt := 5) S.1 S.2.1 dX9_wrong_20 (by decide) (fun _ => ?_) (fun h => absurd h (by decide))
      exact ih_1 _ (by have := rd_ok hlt hok; omega) (p2, mz2, lt2) _ _ _ _ _ ⟨rfl, (rd_ok hlt hok).2.1, hmz2, h92, ((rd_ok hlt hok).2.2.1.symm.trans hfp), rfl, rfl⟩ G (lv_sub hl [0] rfl)
    · subst hv
      refine W.eq (g2 := F0 mg 20 ls [.int (0 : Int32)]) rfl ?_
      refine lv_if_ne (tgt := 5) S.1 S.2.1 dX9_wrong_20 (by decide) (fun h => absurd (by decide) h) (fun _ => ?_)
      refine lv_aload_n S.1 S.2.1 dX9_wrong_23 rfl (lv_at hl 0 rfl) ?_
      refine s_get S hX G (i := 161) (kd := 9) (a := mz2) (v := .int (mz2 10)) (C := RX9) (T := TX9) (N := 13) 10 (rfl : sh 161 = 9) up_eq rfl rfl (by decide) rfl (fun _ h => (List.mem_cons_of_mem _ (List.mem_append_right _ h))) (by decide) (List.mem_of_getElem? (i := 3) rfl) (fun _ h => h) dX9_wrong_24 ?_
      refine s_iret (x := (mz2 10)) S G hr hlk dX9_wrong_27 ?_
      exact ⟨⟨q, (rd_no hlt hno).2, (congrArg (fun z : Int32 => some (Value.int z)) h10), Eq.trans hfp.symm (rd_no hlt hno).1⟩, mz2, lt2, rfl, rfl, hmz2⟩
  · have hpn : n = p := by omega
    subst hpn
    refine lv_aload_n S.1 S.2.1 dX9_wrong_5 rfl (lv_at hl 0 rfl) ?_
    refine s_get S hX G (i := 161) (kd := 9) (a := mz) (v := .int (mz 9)) (C := RX9) (T := TX9) (N := 13) 9 (rfl : sh 161 = 9) up_eq rfl rfl (by decide) rfl (fun _ h => (List.mem_cons_of_mem _ (List.mem_append_right _ h))) (by decide) (List.mem_of_getElem? (i := 1) rfl) (fun _ h => h) dX9_wrong_6 ?_
    refine s_conv (y := (nI n)) h9 ?_
    refine lv_aload_n S.1 S.2.1 dX9_wrong_9 rfl (lv_at hl 0 rfl) ?_
    refine s_get S hX G (i := 161) (kd := 9) (a := mz) (v := .int (mz 8)) (C := RX9) (T := TX9) (N := 13) 8 (rfl : sh 161 = 9) up_eq rfl rfl (by decide) rfl (fun _ h => (List.mem_cons_of_mem _ (List.mem_append_right _ h))) (by decide) (List.mem_of_getElem? (i := 2) rfl) (fun _ h => h) dX9_wrong_10 ?_
    refine s_conv (y := (nI n)) (Eq.trans (hmz 8 (by decide) (by decide) (by decide)) hx8) ?_
    refine lv_icmp_ge (tgt := 28) S.1 S.2.1 dX9_wrong_13 (by decide) (fun _ => ?_) (fun h => absurd (nI_le (by omega) (by omega)) h)
    exact absurd (Eq.trans hfp.symm fpG_nn) ht
set_option maxHeartbeats 4000000 in
set_option maxRecDepth 100000 in
theorem k_X9_playing_no (l : Launch) (E : Ev) {I : SI} {L : SL} (mx : Nat → Int32) (g : Nat → Int32) (lt : Nat → Int32) (n : Nat) (e_mx : I (161) = mx) (e_g : I (166) = g) (e_lt : I (167) = lt) (hx8 : mx 8 = nI n) (hn80 : n ≤ 80) (ht : ¬ fpG g n n 0 0 = -1) : CS l yX9_playing wsX9_playing ({ frames := 3, cells := 0, slots := 0, locals := 67 }) E [.ref (E.2.2.2 161)] I L (fun vv I' L' => vv = some (.int (-2000000002 : Int32)) ∧ ∃ mx' lt', L' = L ∧ I' = (up (up I 167 lt') 161 mx') ∧ (∀ f, f ≠ 9 → f ≠ 10 → f ≠ 11 → mx' f = mx f)) := by
  refine CS.of (cc := cX9_playing) (maxL := 2) (ret := (some .int)) (by decide) rfl (Nat.le_of_ble_eq_true rfl) ?_
  intro pg en sg mg below meth cg ls S hr hlk hX G hl
  have S : CallFix pg mg cg cX9_playing 2 sg _ wsX9_playing RX9 := S
  have hl : lv_has ls 2 [(0, .ref (E.2.2.2 161))] := hl
  refine lv_aload_n S.1 S.2.1 dX9_playing_0 rfl (lv_at hl 0 rfl) ?_
  refine s_callV (C := RX9) (As := []) (rest := []) (i := 161) (kd := 9) S hX G (k_X9_wrong_no l E mx g lt n e_mx e_g e_lt hx8 hn80 ht) (cwV (bytes := cX9_wrong) (maxL := 1) (ret := (some .int)) 0 S.2.2.2.2 gX9_playing_X9_wrong rfl rfl rfl (by decide +kernel) ⟨Nat.le_of_ble_eq_true rfl, Nat.le_of_ble_eq_true rfl⟩) (rfl : sh 161 = 9) rfl rfl rfl (by decide) rfl hl.1 rfl (Nat.le_of_ble_eq_true rfl) ⟨Nat.zero_le _, Nat.zero_le _⟩ dX9_playing_1 (fun v I2 L2 H locs hR G => ?_)
  obtain ⟨⟨q, hq, hv, hfq⟩, mw, lw, hL2, hI2, hmw⟩ := hR
  subst hv
  have G : GS E (up (up I 167 lw) 161 mw) L sg H locs := G.same hI2 hL2
  refine W.eq (g2 := F0 mg 4 ls [.int (nI q)]) rfl ?_
  refine lv_ldc (v := (-2000000004 : Int32)) S.1 S.2.1 S.2.2.2.1 (S.2.2.2.2 _ (List.mem_of_getElem? (i := 1) rfl)) dX9_playing_4 ?_
  refine lv_icmp_eq (tgt := 12) S.1 S.2.1 dX9_playing_6 (by decide) (fun h => absurd h (fun z => by have := congrArg Int32.toInt z; rw [nI_toInt (by omega)] at this; exact absurd this (by have e : (-2000000004 : Int32).toInt = -2000000004 := (by decide); omega))) (fun _ => ?_)
  refine lv_ldc (v := (-2000000002 : Int32)) S.1 S.2.1 S.2.2.2.1 (S.2.2.2.2 _ (List.mem_of_getElem? (i := 2) rfl)) dX9_playing_9 ?_
  refine s_iret (x := (-2000000002 : Int32)) S G hr hlk dX9_playing_11 ?_
  exact ⟨rfl, mw, lw, rfl, rfl, hmw⟩
set_option maxHeartbeats 4000000 in
set_option maxRecDepth 100000 in
theorem k_X9_playing_ok (l : Launch) (E : Ev) {I : SI} {L : SL} (mx : Nat → Int32) (g : Nat → Int32) (lt : Nat → Int32) (n : Nat) (e_mx : I (161) = mx) (e_g : I (166) = g) (e_lt : I (167) = lt) (hx8 : mx 8 = nI n) (hn80 : n ≤ 80) (ht : fpG g n n 0 0 = -1) : CS l yX9_playing wsX9_playing ({ frames := 3, cells := 0, slots := 0, locals := 67 }) E [.ref (E.2.2.2 161)] I L (fun vv I' L' => vv = some (.int (slL g n)) ∧ ∃ mx' lt', L' = L ∧ I' = (up (up I 167 lt') 161 mx') ∧ (∀ f, f ≠ 9 → f ≠ 10 → f ≠ 11 → mx' f = mx f)) := by
  refine CS.of (cc := cX9_playing) (maxL := 2) (ret := (some .int)) (by decide) rfl (Nat.le_of_ble_eq_true rfl) ?_
  intro pg en sg mg below meth cg ls S hr hlk hX G hl
  have S : CallFix pg mg cg cX9_playing 2 sg _ wsX9_playing RX9 := S
  have hl : lv_has ls 2 [(0, .ref (E.2.2.2 161))] := hl
  refine lv_aload_n S.1 S.2.1 dX9_playing_0 rfl (lv_at hl 0 rfl) ?_
  refine s_callV (C := RX9) (As := []) (rest := []) (i := 161) (kd := 9) S hX G (k_X9_wrong_ok l E mx g lt n e_mx e_g e_lt hx8 hn80 ht) (cwV (bytes := cX9_wrong) (maxL := 1) (ret := (some .int)) 0 S.2.2.2.2 gX9_playing_X9_wrong rfl rfl rfl (by decide +kernel) ⟨Nat.le_of_ble_eq_true rfl, Nat.le_of_ble_eq_true rfl⟩) (rfl : sh 161 = 9) rfl rfl rfl (by decide) rfl hl.1 rfl (Nat.le_of_ble_eq_true rfl) ⟨Nat.zero_le _, Nat.zero_le _⟩ dX9_playing_1 (fun v I2 L2 H locs hR G => ?_)
  obtain ⟨hv, mw, lw, hL2, hI2, hmw⟩ := hR
  subst hv
  have G : GS E (up (up I 167 lw) 161 mw) L sg H locs := G.same hI2 hL2
  refine W.eq (g2 := F0 mg 4 ls [.int (-2000000004 : Int32)]) rfl ?_
  refine lv_ldc (v := (-2000000004 : Int32)) S.1 S.2.1 S.2.2.2.1 (S.2.2.2.2 _ (List.mem_of_getElem? (i := 1) rfl)) dX9_playing_4 ?_
  refine lv_icmp_eq (tgt := 12) S.1 S.2.1 dX9_playing_6 (by decide) (fun _ => ?_) (fun h => absurd (by decide) h)
  refine lv_iconst (v := (0 : Int32)) S.1 S.2.1 dX9_playing_12 (by decide) ?_
  refine lv_istore_n (lv' := [(1, .int (0 : Int32)), (0, .ref (E.2.2.2 161))]) S.1 S.2.1 dX9_playing_13 rfl hl (by decide) rfl (fun ls hl => ?_)
  refine lv_aload_n S.1 S.2.1 dX9_playing_14 rfl (lv_at hl 1 rfl) ?_
  refine lv_iconst (v := (0 : Int32)) S.1 S.2.1 dX9_playing_15 (by decide) ?_
  refine s_put S hX G (i := 161) (kd := 9) (a := mw) (a' := (upd mw 9 (0 : Int32))) (I' := (up (up I 167 lw) 161 (upd mw 9 (0 : Int32)))) (v := .int (0 : Int32)) (ty := .int) (ty0 := tyX9) (C := RX9) (T := TX9) (N := 13) 9 (rfl : sh 161 = 9) up_eq rfl rfl (by rw [up_up]) (by decide) rfl (fun _ h => (List.mem_cons_of_mem _ (List.mem_append_right _ h))) tyX9_ok nmX9 (by decide) (List.mem_of_getElem? (i := 3) rfl) (fun _ h => h) rfl (by decide +kernel) rfl rfl (Nat.le_of_ble_eq_true rfl) dX9_playing_16 (fun H locs G => ?_)
  refine s_loop (α := Nat × (Nat → Int32) × (Nat → Int32)) (nL := 2) (E := E) (fun nn x I' L' => nn = n - x.1 ∧ x.1 ≤ n ∧ (∀ f, f ≠ 9 → f ≠ 10 → f ≠ 11 → x.2.1 f = mx f) ∧ x.2.1 9 = nI x.1 ∧ fpG g n (n - x.1) x.1 0 = fpG g n n 0 0 ∧ I' = (up (up I 167 x.2.2) 161 x.2.1) ∧ L' = L) (fun x => [(1, .int (slL g x.1)), (0, .ref (E.2.2.2 161))]) 19 (fun x => []) (fun nn ih_1 x I1 L1 H locs ls hP G hl => ?_) _ (0, ((upd mw 9 (0 : Int32))), (lw)) ⟨rfl, (Nat.zero_le _), (fun f a b c => (Eq.trans (upd_ne a) (hmw f a b c))), rfl, (by rw [Nat.sub_zero]), (st_eq2 ((up_ne (by decide)).trans up_eq) up_eq (fun _ g0 g1 => ((up_ne g1).trans (up_ne g0)))), rfl⟩ G (lv_sub hl [0, 1] rfl)
  obtain ⟨p, mz, lt⟩ := x
  obtain ⟨hn, hp, hmz, h9, hfp, hIc, hLc⟩ := hP
  have hn : nn = n - p := hn
  obtain ⟨I_b, rfl⟩ : ∃ z, z = I1 := ⟨I1, rfl⟩
  obtain ⟨L_b, rfl⟩ : ∃ z, z = L1 := ⟨L1, rfl⟩
  have hp : p ≤ n := hp
  have hmz : (∀ f, f ≠ 9 → f ≠ 10 → f ≠ 11 → mz f = mx f) := hmz
  have h9 : mz 9 = nI p := h9
  have hfp : fpG g n (n - p) p 0 = fpG g n n 0 0 := hfp
  have hIc : I_b = (up (up I 167 lt) 161 mz) := hIc
  have hLc : L_b = L := hLc
  have hl : lv_has ls 2 [(1, .int (slL g p)), (0, .ref (E.2.2.2 161))] := hl
  refine W.eq (g2 := F0 mg 19 ls []) rfl ?_
  have G : GS E (up (up I 167 lt) 161 mz) L sg H locs := G.same hIc hLc
  rcases Nat.lt_or_ge p n with hlt | hge
  · have hlt : p < n := hlt
    refine lv_aload_n S.1 S.2.1 dX9_playing_19 rfl (lv_at hl 1 rfl) ?_
    refine s_get S hX G (i := 161) (kd := 9) (a := mz) (v := .int (mz 9)) (C := RX9) (T := TX9) (N := 13) 9 (rfl : sh 161 = 9) up_eq rfl rfl (by decide) rfl (fun _ h => (List.mem_cons_of_mem _ (List.mem_append_right _ h))) (by decide) (List.mem_of_getElem? (i := 3) rfl) (fun _ h => h) dX9_playing_20 ?_
    refine s_conv (y := (nI p)) h9 ?_
    refine lv_aload_n S.1 S.2.1 dX9_playing_23 rfl (lv_at hl 1 rfl) ?_
    refine s_get S hX G (i := 161) (kd := 9) (a := mz) (v := .int (mz 8)) (C := RX9) (T := TX9) (N := 13) 8 (rfl : sh 161 = 9) up_eq rfl rfl (by decide) rfl (fun _ h => (List.mem_cons_of_mem _ (List.mem_append_right _ h))) (by decide) (List.mem_of_getElem? (i := 4) rfl) (fun _ h => h) dX9_playing_24 ?_
    refine s_conv (y := (nI n)) (Eq.trans (hmz 8 (by decide) (by decide) (by decide)) hx8) ?_
    refine lv_icmp_ge (tgt := 45) S.1 S.2.1 dX9_playing_27 (by decide) (fun h => absurd h (nI_ge hlt (by omega))) (fun _ => ?_)
    refine lv_aload_n S.1 S.2.1 dX9_playing_30 rfl (lv_at hl 1 rfl) ?_
    refine s_callV (C := RX9) (As := []) (rest := []) (i := 161) (kd := 9) S hX G (k_X9_reads l E mz g lt n p up_eq ((up_ne (by decide)).trans ((up_ne (by decide)).trans e_g)) ((up_ne (by decide)).trans up_eq) (Eq.trans (hmz 8 (by decide) (by decide) (by decide)) hx8) h9 hn80 hp) (cwV (bytes := cX9_reads) (maxL := 3) (ret := (some .boolean)) 0 S.2.2.2.2 gX9_playing_X9_reads rfl rfl rfl (by decide +kernel) ⟨Nat.le_of_ble_eq_true rfl, Nat.le_of_ble_eq_true rfl⟩) (rfl : sh 161 = 9) rfl rfl rfl (by decide) rfl hl.1 rfl (Nat.le_of_ble_eq_true rfl) ⟨Nat.zero_le _, Nat.zero_le _⟩ dX9_playing_31 (fun v I2 L2 H locs hR G => ?_)
    obtain ⟨mz2, lt2, hL2, hI2, hfr, hRd⟩ := hR
    have G : GS E (up (up I 167 lt2) 161 mz2) L sg H locs := G.same (hI2.trans (st_eq2 ((up_ne (by decide)).trans up_eq) up_eq (fun _ g0 g1 => ((up_ne g1).trans ((up_ne g0).trans ((up_ne g1).trans (up_ne g0))))))) hL2
    have hmz2 : (∀ f, f ≠ 9 → f ≠ 10 → f ≠ 11 → mz2 f = mx f) := fun f a b c => Eq.trans (hfr f a b c) (hmz f a b c)
    rcases hRd with ⟨hv, ⟨p2, hok, h92⟩, hlt2⟩ | ⟨hv, q, hno, h10⟩
    · subst hv
      refine W.eq (g2 := F0 mg 34 ls [.int (1 : Int32)]) rfl ?_
      refine lv_pop S.1 S.2.1 dX9_playing_34 rfl ?_
      refine lv_iload_n S.1 S.2.1 dX9_playing_35 rfl (lv_at hl 0 rfl) ?_
      refine lv_aload_n S.1 S.2.1 dX9_playing_36 rfl (lv_at hl 1 rfl) ?_
      refine s_get S hX G (i := 161) (kd := 9) (a := mz2) (v := .int (mz2 11)) (C := RX9) (T := TX9) (N := 13) 11 (rfl : sh 161 = 9) up_eq rfl rfl (by decide) rfl (fun _ h => (List.mem_cons_of_mem _ (List.mem_append_right _ h))) (by decide) (List.mem_of_getElem? (i := 5) rfl) (fun _ h => h) dX9_playing_37 ?_
      refine s_iadd (v := (slL g p2)) S dX9_playing_40 (rd_sl hlt hok).symm ?_
      refine lv_istore_n (lv' := [(1, .int (slL g p2)), (0, .ref (E.2.2.2 161))]) S.1 S.2.1 dX9_playing_41 rfl hl (by decide) rfl (fun ls hl => ?_)
      refine lv_goto (tgt := 19) S.1 S.2.1 dX9_playing_42 (by decide) ?_
      exact ih_1 _ (by have := rd_ok hlt hok; omega) (p2, mz2, lt2) _ _ _ _ _ ⟨rfl, (rd_ok hlt hok).2.1, hmz2, h92, ((rd_ok hlt hok).2.2.1.symm.trans hfp), rfl, rfl⟩ G (lv_sub hl [0, 1] rfl)
    · exact absurd (Eq.trans (rd_no hlt hno).1.symm (Eq.trans hfp ht)) (nI_ne_m1 (by have := (rd_no hlt hno).2; omega))
  · have hpn : n = p := by omega
    subst hpn
    refine lv_aload_n S.1 S.2.1 dX9_playing_19 rfl (lv_at hl 1 rfl) ?_
    refine s_get S hX G (i := 161) (kd := 9) (a := mz) (v := .int (mz 9)) (C := RX9) (T := TX9) (N := 13) 9 (rfl : sh 161 = 9) up_eq rfl rfl (by decide) rfl (fun _ h => (List.mem_cons_of_mem _ (List.mem_append_right _ h))) (by decide) (List.mem_of_getElem? (i := 3) rfl) (fun _ h => h) dX9_playing_20 ?_
    refine s_conv (y := (nI n)) h9 ?_
    refine lv_aload_n S.1 S.2.1 dX9_playing_23 rfl (lv_at hl 1 rfl) ?_
    refine s_get S hX G (i := 161) (kd := 9) (a := mz) (v := .int (mz 8)) (C := RX9) (T := TX9) (N := 13) 8 (rfl : sh 161 = 9) up_eq rfl rfl (by decide) rfl (fun _ h => (List.mem_cons_of_mem _ (List.mem_append_right _ h))) (by decide) (List.mem_of_getElem? (i := 4) rfl) (fun _ h => h) dX9_playing_24 ?_
    refine s_conv (y := (nI n)) (Eq.trans (hmz 8 (by decide) (by decide) (by decide)) hx8) ?_
    refine lv_icmp_ge (tgt := 45) S.1 S.2.1 dX9_playing_27 (by decide) (fun _ => ?_) (fun h => absurd (nI_le (by omega) (by omega)) h)
    refine lv_iload_n S.1 S.2.1 dX9_playing_45 rfl (lv_at hl 0 rfl) ?_
    refine s_iret (x := (slL g n)) S G hr hlk dX9_playing_46 ?_
    exact ⟨rfl, mz, lt, rfl, rfl, hmz⟩
