/-- the law's look at the object -/
theorem k_holds (l : Launch) (E : Ev) {I : SI} {L : SL} (k : Nat) (hB : BlkI I 1 k) (hk2 : k < 2 ^ 28) : RD l yL_holds wsL_holds ({ frames := 6, cells := 0, slots := 0, locals := 140 } : Room) E [.ref (E.2.2.2 0)] I L (.int (1 : Int32)) := by
  refine CS.of (cc := cL_holds) (maxL := 9) (ret := (some .boolean)) (by decide) rfl (Nat.le_of_ble_eq_true rfl) ?_
  intro pg eg sg mg below meth cg ls S hr hlk hX G hl
  have S : CallFix pg mg cg cL_holds 9 sg _ wsL_holds RL := S
  have hl : lv_has ls 9 [(0, .ref (E.2.2.2 0))] := hl
  have hk := hB.1
  have hleg := hB.leg
  have hlo := hB.lo
  have hft := hB.ft
  have sws : ∀ n, n < 4 → ∃ r, I (lgc n) 3 = nI r ∧ r ≤ k := fun n hn => by
    obtain ⟨-, -, r2, r3, r4, r5, r6, -, e3, -, -, -, -, h3, -, -, -⟩ := hleg n hn
    exact ⟨r3, e3, h3⟩
  obtain ⟨a0, h0, b0⟩ := sws 0 (by decide)
  obtain ⟨a1, h1, b1⟩ := sws 1 (by decide)
  obtain ⟨a2, h2, b2⟩ := sws 2 (by decide)
  obtain ⟨a3, h3, b3⟩ := sws 3 (by decide)
  obtain ⟨c0, d0, g0⟩ := (hft 0 (by decide)).num
  obtain ⟨c1, d1, g1⟩ := (hft 1 (by decide)).num
  have hw : ∀ n, n < 4 → ¬ I (ftn (n / 2)) 3 = 0 → wshI I n = 0 := fun n hn h => by
    refine wsh_0 hn (fun q => h ?_)
    obtain ⟨c, hc, e⟩ := (hft (n / 2) (by omega)).num
    rw [e] at q ⊢
    have q2 := (nI_leI (b := 0) (by omega) (by decide)).mp q
    rw [show c = 0 by omega]
    rfl
  have hpl : ∀ j, j < 2 → plP (I (ftt j)) (I (ftu j)) 3 = (1 : Int32) <<< (I (ftn j) 3 &&& 31) - 1 := fun j hj => by
    rw [(hft j hj).2.1]
    exact plP_3 (hft j hj).1
  refine hd_0 S hX G hl hk hk2 (fun H locs ls G hl => ?_)
  refine hd_leg (n := 0) (sw := a0) (S0 := 0) (T := 0) S hX G hl (by decide) hk hk2 (hleg 0 (by decide)) h0 b0 (hw 0 (by decide)) (fun H locs ls G hl => ?_)
  refine hd_leg (n := 1) (sw := a1) S hX G hl (by decide) hk hk2 (hleg 1 (by decide)) h1 b1 (hw 1 (by decide)) (fun H locs ls G hl => ?_)
  refine hd_leg (n := 2) (sw := a2) S hX G hl (by decide) hk hk2 (hleg 2 (by decide)) h2 b2 (hw 2 (by decide)) (fun H locs ls G hl => ?_)
  refine hd_leg (n := 3) (sw := a3) S hX G hl (by decide) hk hk2 (hleg 3 (by decide)) h3 b3 (hw 3 (by decide)) (fun H locs ls G hl => ?_)
  refine hd_mid S G hl (fun H locs ls G hl => ?_)
  refine hd_ld1 (j := 0) (c := c0) S hX G hl (by decide) g0 d0 (fun H locs ls G hl => ?_)
  refine hd_flt (j := 0) (f := 0) S hX G hl (by decide) (by decide) hk hk2 ((hft 0 (by decide)).2.2 0 (by decide)) (fun H locs ls G hl => ?_)
  refine hd_flt (j := 0) (f := 1) S hX G hl (by decide) (by decide) hk hk2 ((hft 0 (by decide)).2.2 1 (by decide)) (fun H locs ls G hl => ?_)
  refine hd_flt (j := 0) (f := 2) S hX G hl (by decide) (by decide) hk hk2 ((hft 0 (by decide)).2.2 2 (by decide)) (fun H locs ls G hl => ?_)
  refine hd_ld2 (j := 0) S hX G hl (by decide) (hlo 0 (by decide)) (hpl 0 (by decide)) (fun H locs ls G hl => ?_)
  refine hd_ld1 (j := 1) (c := c1) S hX G hl (by decide) g1 d1 (fun H locs ls G hl => ?_)
  refine hd_flt (j := 1) (f := 0) S hX G hl (by decide) (by decide) hk hk2 ((hft 1 (by decide)).2.2 0 (by decide)) (fun H locs ls G hl => ?_)
  refine hd_flt (j := 1) (f := 1) S hX G hl (by decide) (by decide) hk hk2 ((hft 1 (by decide)).2.2 1 (by decide)) (fun H locs ls G hl => ?_)
  refine hd_flt (j := 1) (f := 2) S hX G hl (by decide) (by decide) hk hk2 ((hft 1 (by decide)).2.2 2 (by decide)) (fun H locs ls G hl => ?_)
  refine hd_ld2 (j := 1) S hX G hl (by decide) (hlo 1 (by decide)) (hpl 1 (by decide)) (fun H locs ls G hl => ?_)
  refine hd_end (a0 := a0) (a1 := a1) (a2 := a2) (a3 := a3) (c0 := c0) (c1 := c1) S hX G hl h0 h1 h2 h3 (by omega) g0 g1 (by omega) (by omega) (by omega) (fun H locs ls G => ?_)
  refine s_zret (x := (1 : Int32)) S G hr hlk dL_holds_447 (Or.inr rfl) ?_
  exact ⟨rfl, rfl, rfl⟩
