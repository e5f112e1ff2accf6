theorem ag_go {I I1 I2 I3 I4 : SI} {L L1 L2 L3 : SL} {k q r a : Nat} (f1 : ∀ z, z < 27 ∨ 53 ≤ z → I1 z = I z) (f2 : ∀ z, z < 27 ∨ 53 ≤ z → I2 z = I1 z) (ag3 : AgB I3 1 (brIt 1 k q (I2, L2)).1 1) (ag4 : AgB I4 1 (brIt 1 (k + q) r (I3, L3)).1 1) (hr : q + r = a) : I4 (ldb 0) 4 = (brIt 1 k a (I, L)).1 (ldb 0) 4 ∧ I4 (ldb 1) 4 = (brIt 1 k a (I1, L1)).1 (ldb 1) 4 := by
  have a1 : AgB (brIt 1 (k + q) r (I3, L3)).1 1 (brIt 1 (k + q) r (brIt 1 k q (I2, L2))).1 1 := AgB.it (L' := L3) (L := (brIt 1 k q (I2, L2)).2) ag3 r
  rw [it_add, hr] at a1
  have b2 : AgB (brIt 1 k a (I2, L2)).1 1 (brIt 1 k a (I1, L1)).1 1 := AgB.it (ag_eq (fun z _ hz => f2 z (by omega))) a
  have b1 : AgB (brIt 1 k a (I1, L1)).1 1 (brIt 1 k a (I, L)).1 1 := AgB.it (ag_eq (fun z _ hz => f1 z (by omega))) a
  have c2 := ag4.trans (a1.trans b2)
  have c1 := c2.trans b1
  exact ⟨c1.2.1.1 4 (by decide) (by decide), c2.2.2.1 4 (by decide) (by decide)⟩
