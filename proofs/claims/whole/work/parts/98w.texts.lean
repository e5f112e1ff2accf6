theorem fpG_nn {g : Nat → Int32} {n : Nat} : fpG g n (n - n) n 0 = -1 := by
  rw [Nat.sub_self]
  show (if (0 : Int32) = 0 then (-1 : Int32) else nI n) = -1
  rw [if_pos rfl]
def obeyM (x c : Int32) : Int32 := if c = 111 then 0 else if c = 104 then 1 else if c = 108 then 2 else x
def c4F (D lt : Nat → Int32) : Nat → Int32 := upd (upd (upd (upd D 8 (if lt 0 = 3 then D 8 else lt 0)) 16 (if lt 1 = 3 then D 16 else lt 1)) 24 (if lt 2 = 3 then D 24 else lt 2)) 32 (if lt 3 = 3 then D 32 else lt 3)
/-- the pattern is played over the model's row: the row, the sizes, the next leg -/
def plM (g d : Nat → Int32) (lx : Nat → Int64) : Nat → (Nat → Int32) × (Nat → Int64) × Nat
  | 0 => (d, lx, 0)
  | j + 1 =>
    let r := plM g d lx j
    if g j = 59 then (gsN r.1 (sbL g j 0 1).toNatClampNeg, gsNX r.1 r.2.1 (sbL g j 0 1).toNatClampNeg, 0)
    else if r.2.2 < 4 then (upd r.1 (8 + 8 * r.2.2) (obeyM (r.1 (8 + 8 * r.2.2)) (g j)), r.2.1, r.2.2 + 1) else (r.1, r.2.1, r.2.2)
theorem plM_semi {g d : Nat → Int32} {lx : Nat → Int64} {j : Nat} (h : g j = 59) : plM g d lx (j + 1) = (gsN (plM g d lx j).1 (sbL g j 0 1).toNatClampNeg, gsNX (plM g d lx j).1 (plM g d lx j).2.1 (sbL g j 0 1).toNatClampNeg, 0) := by
  show (if g j = 59 then _ else _) = _
  rw [if_pos h]
theorem plM_leg {g d : Nat → Int32} {lx : Nat → Int64} {j : Nat} (h : ¬ g j = 59) (h4 : (plM g d lx j).2.2 < 4) : plM g d lx (j + 1) = (upd (plM g d lx j).1 (8 + 8 * (plM g d lx j).2.2) (obeyM ((plM g d lx j).1 (8 + 8 * (plM g d lx j).2.2)) (g j)), (plM g d lx j).2.1, (plM g d lx j).2.2 + 1) := by
  show (if g j = 59 then _ else _) = _
  rw [if_neg h, if_pos h4]
theorem plM_more {g d : Nat → Int32} {lx : Nat → Int64} {j : Nat} (h : ¬ g j = 59) (h4 : ¬ (plM g d lx j).2.2 < 4) : plM g d lx (j + 1) = plM g d lx j := by
  show (if g j = 59 then _ else _) = _
  rw [if_neg h, if_neg h4]
theorem obey_let {x c : Int32} (h : ¬ letF c = -1) : (if letF c = 3 then x else letF c) = obeyM x c := by
  unfold obeyM
  unfold letF at h ⊢
  by_cases a : c = 111
  · subst a
    rfl
  · rw [if_neg a] at h ⊢
    rw [if_neg a]
    by_cases b : c = 104
    · subst b
      rfl
    · rw [if_neg b] at h ⊢
      rw [if_neg b]
      by_cases e : c = 108
      · subst e
        rfl
      · rw [if_neg e] at h ⊢
        rw [if_neg e]
        by_cases f : c = 61
        · rw [if_pos f, if_pos rfl]
        · rw [if_neg f] at h
          exact absurd rfl h
theorem plM_skip {g d : Nat → Int32} {lx : Nat → Int64} {a : Nat} (h4 : (plM g d lx a).2.2 = 4) : ∀ r, (∀ j, a ≤ j → j < a + r → ¬ g j = 59) → plM g d lx (a + r) = plM g d lx a := by
  intro r
  induction r with
  | zero => exact fun _ => rfl
  | succ r ih =>
    intro h
    have e := ih (fun j h1 h2 => h j h1 (by omega))
    rw [show a + (r + 1) = (a + r) + 1 from rfl, plM_more (h _ (by omega) (by omega)) (by rw [e, h4]; decide), e]
theorem plM_part {g d lt : Nat → Int32} {lx : Nat → Int64} {n p p' N : Nat} {m : Int32} (hp : p < n) (h : RdOk g n p p' m) (hm : m = nI N) (hN : N < 2 ^ 31) (h0 : (plM g d lx p).2.2 = 0) (hlt : ∀ i, i < 4 → lt i = letF (sgF g n (p + i))) : plM g d lx p' = (gsN (c4F (plM g d lx p).1 lt) N, gsNX (c4F (plM g d lx p).1 lt) (plM g d lx p).2.1 N, 0) := by
  obtain ⟨a1, a2, a3, a4, a5, a6, a7, a8⟩ := rd_ok hp h
  have l : ∀ i, i < 4 → lt i = letF (g (p + i)) := fun i hi => by rw [hlt i hi, sgF_lt (by omega)]
  have nl : ∀ i, i < 4 → ¬ g (p + i) = 59 := fun i hi => (let_nd (a8 i hi)).2
  generalize hr : plM g d lx p = r at *
  obtain ⟨D, X, lg⟩ := r
  have h0 : lg = 0 := h0
  subst h0
  have e1 : plM g d lx (p + 1) = (upd D 8 (obeyM (D 8) (g p)), X, 1) := by
    rw [plM_leg (show ¬ g p = 59 from nl 0 (by decide)) (by rw [hr]; show 0 < 4; decide), hr]
  have e2 : plM g d lx (p + 2) = (upd (upd D 8 (obeyM (D 8) (g p))) 16 (obeyM (D 16) (g (p + 1))), X, 2) := by
    rw [show p + 2 = (p + 1) + 1 from rfl, plM_leg (nl 1 (by decide)) (by rw [e1]; show 1 < 4; decide), e1]
    rfl
  have e3 : plM g d lx (p + 3) = (upd (upd (upd D 8 (obeyM (D 8) (g p))) 16 (obeyM (D 16) (g (p + 1)))) 24 (obeyM (D 24) (g (p + 2))), X, 3) := by
    rw [show p + 3 = (p + 2) + 1 from rfl, plM_leg (nl 2 (by decide)) (by rw [e2]; show 2 < 4; decide), e2]
    rfl
  have e4 : plM g d lx (p + 4) = (c4F D lt, X, 4) := by
    rw [show p + 4 = (p + 3) + 1 from rfl, plM_leg (nl 3 (by decide)) (by rw [e3]; show 3 < 4; decide), e3]
    unfold c4F
    rw [l 0 (by decide), l 1 (by decide), l 2 (by decide), l 3 (by decide), obey_let (a8 0 (by decide)), obey_let (a8 1 (by decide)), obey_let (a8 2 (by decide)), obey_let (a8 3 (by decide))]
    rfl
  have e5 := plM_skip (g := g) (d := d) (lx := lx) (a := p + 4) (by rw [e4]) (p' - 1 - (p + 4)) (fun j h1 h2 => a5 j (by omega) (by omega))
  rw [show p + 4 + (p' - 1 - (p + 4)) = p' - 1 by omega, e4] at e5
  rw [show p' = (p' - 1) + 1 by omega, plM_semi a6, e5, a7, hm, nI_clamp hN]
theorem c4_cmds {D lt : Nat → Int32} {g : Nat → Int32} {n p : Nat} (h : cmdsM D) (hlt : ∀ i, i < 4 → lt i = letF (sgF g n (p + i))) (h4 : Rd4 g n p) : cmdsM (c4F D lt) := by
  obtain ⟨a, b, c, e⟩ := h
  have q : ∀ (x : Int32) (ch : Int32), (x = 0 ∨ x = 1 ∨ x = 2) → ¬ letF ch = -1 → (if letF ch = 3 then x else letF ch) = 0 ∨ (if letF ch = 3 then x else letF ch) = 1 ∨ (if letF ch = 3 then x else letF ch) = 2 := by
    intro x ch hx hc
    rw [obey_let hc]
    unfold obeyM
    split
    · exact Or.inl rfl
    · split
      · exact Or.inr (Or.inl rfl)
      · split
        · exact Or.inr (Or.inr rfl)
        · exact hx
  obtain ⟨r0, r1, r2, r3⟩ := h4
  refine ⟨?_, ?_, ?_, ?_⟩
  · show (if lt 0 = 3 then D 8 else lt 0) = 0 ∨ (if lt 0 = 3 then D 8 else lt 0) = 1 ∨ (if lt 0 = 3 then D 8 else lt 0) = 2
    rw [hlt 0 (by decide)]
    exact q _ _ a r0
  · show (if lt 1 = 3 then D 16 else lt 1) = 0 ∨ (if lt 1 = 3 then D 16 else lt 1) = 1 ∨ (if lt 1 = 3 then D 16 else lt 1) = 2
    rw [hlt 1 (by decide)]
    exact q _ _ b r1
  · show (if lt 2 = 3 then D 24 else lt 2) = 0 ∨ (if lt 2 = 3 then D 24 else lt 2) = 1 ∨ (if lt 2 = 3 then D 24 else lt 2) = 2
    rw [hlt 2 (by decide)]
    exact q _ _ c r2
  · show (if lt 3 = 3 then D 32 else lt 3) = 0 ∨ (if lt 3 = 3 then D 32 else lt 3) = 1 ∨ (if lt 3 = 3 then D 32 else lt 3) = 2
    rw [hlt 3 (by decide)]
    exact q _ _ e r3
