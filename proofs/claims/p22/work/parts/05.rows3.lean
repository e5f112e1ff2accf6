section ROWS3
variable {p : Program} {l : Launch} {e : Env} {R : Room} {s : State} {m : MethodId} {args : Array Value} {below : List Frame} {meth : Method} {c : Code} {H : Heap} {locs : List Loc} {cells slots : Nat} {Q : State → Prop}
variable {cc : ByteArray} {pc nL : Nat} {ls : Array Slot} {rest : List Value} {E : Ev} {I : SI} {L : SL} {Ts : List Cond} {own : String}
theorem s_iadd (S : CallFix p m c cc nL s args Ts own) {x y v : Int32} (hdg : decode cc pc = .ok (.iadd, 1)) (hv : x + y = v) (k : W p l e R s m args below meth c H locs cells slots Q (F0 m (pc + 1) ls (.int v :: rest))) : W p l e R s m args below meth c H locs cells slots Q (F0 m pc ls (.int y :: .int x :: rest)) := lv_iadd S.1 S.2.1 hdg (by rw [hv]; exact k)
theorem s_isub (S : CallFix p m c cc nL s args Ts own) {x y v : Int32} (hdg : decode cc pc = .ok (.isub, 1)) (hv : x - y = v) (k : W p l e R s m args below meth c H locs cells slots Q (F0 m (pc + 1) ls (.int v :: rest))) : W p l e R s m args below meth c H locs cells slots Q (F0 m pc ls (.int y :: .int x :: rest)) := lv_isub S.1 S.2.1 hdg (by rw [hv]; exact k)
theorem s_imul (S : CallFix p m c cc nL s args Ts own) {x y v : Int32} (hdg : decode cc pc = .ok (.imul, 1)) (hv : x * y = v) (k : W p l e R s m args below meth c H locs cells slots Q (F0 m (pc + 1) ls (.int v :: rest))) : W p l e R s m args below meth c H locs cells slots Q (F0 m pc ls (.int y :: .int x :: rest)) := lv_imul S.1 S.2.1 hdg (by rw [hv]; exact k)
theorem s_idiv (S : CallFix p m c cc nL s args Ts own) {x y v : Int32} (hdg : decode cc pc = .ok (.idiv, 1)) (hne : ¬ y = 0) (hv : x / y = v) (k : W p l e R s m args below meth c H locs cells slots Q (F0 m (pc + 1) ls (.int v :: rest))) : W p l e R s m args below meth c H locs cells slots Q (F0 m pc ls (.int y :: .int x :: rest)) := lv_idiv S.1 S.2.1 hdg hne (by rw [hv]; exact k)
theorem s_irem (S : CallFix p m c cc nL s args Ts own) {x y v : Int32} (hdg : decode cc pc = .ok (.irem, 1)) (hne : ¬ y = 0) (hv : x - x / y * y = v) (k : W p l e R s m args below meth c H locs cells slots Q (F0 m (pc + 1) ls (.int v :: rest))) : W p l e R s m args below meth c H locs cells slots Q (F0 m pc ls (.int y :: .int x :: rest)) := lv_irem S.1 S.2.1 hdg hne (by rw [hv]; exact k)
theorem s_ladd (S : CallFix p m c cc nL s args Ts own) {x y v : Int64} (hdg : decode cc pc = .ok (.ladd, 1)) (hv : x + y = v) (k : W p l e R s m args below meth c H locs cells slots Q (F0 m (pc + 1) ls (.long v :: rest))) : W p l e R s m args below meth c H locs cells slots Q (F0 m pc ls (.long y :: .long x :: rest)) := lv_ladd S.1 S.2.1 hdg (by rw [hv]; exact k)
theorem s_lsub (S : CallFix p m c cc nL s args Ts own) {x y v : Int64} (hdg : decode cc pc = .ok (.lsub, 1)) (hv : x - y = v) (k : W p l e R s m args below meth c H locs cells slots Q (F0 m (pc + 1) ls (.long v :: rest))) : W p l e R s m args below meth c H locs cells slots Q (F0 m pc ls (.long y :: .long x :: rest)) := lv_lsub S.1 S.2.1 hdg (by rw [hv]; exact k)
theorem s_lmul (S : CallFix p m c cc nL s args Ts own) {x y v : Int64} (hdg : decode cc pc = .ok (.lmul, 1)) (hv : x * y = v) (k : W p l e R s m args below meth c H locs cells slots Q (F0 m (pc + 1) ls (.long v :: rest))) : W p l e R s m args below meth c H locs cells slots Q (F0 m pc ls (.long y :: .long x :: rest)) := lv_lmul S.1 S.2.1 hdg (by rw [hv]; exact k)
theorem s_ldiv (S : CallFix p m c cc nL s args Ts own) {x y v : Int64} (hdg : decode cc pc = .ok (.ldiv, 1)) (hne : ¬ y = 0) (hv : x / y = v) (k : W p l e R s m args below meth c H locs cells slots Q (F0 m (pc + 1) ls (.long v :: rest))) : W p l e R s m args below meth c H locs cells slots Q (F0 m pc ls (.long y :: .long x :: rest)) := lv_ldiv S.1 S.2.1 hdg hne (by rw [hv]; exact k)
theorem s_if_eq_b {P : Prop} [Decidable P] (S : CallFix p m c cc nL s args Ts own) {off : Int} {tgt : Nat} (hdg : decode cc pc = .ok (.ifCond .eq off, 3)) (ht : (pc : Int) + off = (tgt : Int)) (kt : ¬ P → W p l e R s m args below meth c H locs cells slots Q (F0 m tgt ls rest)) (kf : P → W p l e R s m args below meth c H locs cells slots Q (F0 m (pc + 3) ls rest)) : W p l e R s m args below meth c H locs cells slots Q (F0 m pc ls (.int (if P then 1 else 0) :: rest)) :=
  lv_if_eq S.1 S.2.1 hdg ht (fun h => kt (fun hp => by rw [if_pos hp] at h; exact absurd h (by decide))) (fun h => kf (Classical.byContradiction fun hp => h (if_neg hp)))
theorem s_if_ne_b {P : Prop} [Decidable P] (S : CallFix p m c cc nL s args Ts own) {off : Int} {tgt : Nat} (hdg : decode cc pc = .ok (.ifCond .ne off, 3)) (ht : (pc : Int) + off = (tgt : Int)) (kt : P → W p l e R s m args below meth c H locs cells slots Q (F0 m tgt ls rest)) (kf : ¬ P → W p l e R s m args below meth c H locs cells slots Q (F0 m (pc + 3) ls rest)) : W p l e R s m args below meth c H locs cells slots Q (F0 m pc ls (.int (if P then 1 else 0) :: rest)) :=
  lv_if_ne S.1 S.2.1 hdg ht (fun h => kt (Classical.byContradiction fun hp => h (if_neg hp))) (fun h => kf (fun hp => by rw [if_pos hp] at h; exact absurd h (by decide)))
theorem s_if_lt_c (S : CallFix p m c cc nL s args Ts own) {x y : Int64} {off : Int} {tgt : Nat} (hdg : decode cc pc = .ok (.ifCond .lt off, 3)) (ht : (pc : Int) + off = (tgt : Int)) (kt : x < y → W p l e R s m args below meth c H locs cells slots Q (F0 m tgt ls rest)) (kf : ¬ x < y → W p l e R s m args below meth c H locs cells slots Q (F0 m (pc + 3) ls rest)) : W p l e R s m args below meth c H locs cells slots Q (F0 m pc ls (.int (lg_cmp x y) :: rest)) :=
  lv_if_lt S.1 S.2.1 hdg ht (fun h => kt ((lg_cmp_lt x y).mp h)) (fun h => kf (fun h2 => h ((lg_cmp_lt x y).mpr h2)))
theorem s_if_gt_c (S : CallFix p m c cc nL s args Ts own) {x y : Int64} {off : Int} {tgt : Nat} (hdg : decode cc pc = .ok (.ifCond .gt off, 3)) (ht : (pc : Int) + off = (tgt : Int)) (kt : y < x → W p l e R s m args below meth c H locs cells slots Q (F0 m tgt ls rest)) (kf : ¬ y < x → W p l e R s m args below meth c H locs cells slots Q (F0 m (pc + 3) ls rest)) : W p l e R s m args below meth c H locs cells slots Q (F0 m pc ls (.int (lg_cmp x y) :: rest)) :=
  lv_if_gt S.1 S.2.1 hdg ht (fun h => kt ((lg_cmp_gt x y).mp h)) (fun h => kf (fun h2 => h ((lg_cmp_gt x y).mpr h2)))
theorem s_if_ge_c (S : CallFix p m c cc nL s args Ts own) {x y : Int64} {off : Int} {tgt : Nat} (hdg : decode cc pc = .ok (.ifCond .ge off, 3)) (ht : (pc : Int) + off = (tgt : Int)) (kt : y ≤ x → W p l e R s m args below meth c H locs cells slots Q (F0 m tgt ls rest)) (kf : ¬ y ≤ x → W p l e R s m args below meth c H locs cells slots Q (F0 m (pc + 3) ls rest)) : W p l e R s m args below meth c H locs cells slots Q (F0 m pc ls (.int (lg_cmp x y) :: rest)) :=
  lv_if_ge S.1 S.2.1 hdg ht (fun h => kt ((lg_cmp_ge x y).mp h)) (fun h => kf (fun h2 => h ((lg_cmp_ge x y).mpr h2)))
theorem s_if_le_c (S : CallFix p m c cc nL s args Ts own) {x y : Int64} {off : Int} {tgt : Nat} (hdg : decode cc pc = .ok (.ifCond .le off, 3)) (ht : (pc : Int) + off = (tgt : Int)) (kt : x ≤ y → W p l e R s m args below meth c H locs cells slots Q (F0 m tgt ls rest)) (kf : ¬ x ≤ y → W p l e R s m args below meth c H locs cells slots Q (F0 m (pc + 3) ls rest)) : W p l e R s m args below meth c H locs cells slots Q (F0 m pc ls (.int (lg_cmp x y) :: rest)) :=
  lv_if_le S.1 S.2.1 hdg ht (fun h => kt ((lg_cmp_le x y).mp h)) (fun h => kf (fun h2 => h ((lg_cmp_le x y).mpr h2)))
end ROWS3
theorem up_swap {I : SI} {i j : Nat} {a b : Nat → Int32} (h : i ≠ j) : up (up I i a) j b = up (up I j b) i a := by
  funext z
  unfold up
  by_cases h1 : z = i
  · by_cases h2 : z = j
    · exact absurd (h1.symm.trans h2) h
    · simp [h1, h]
  · simp [h1]
theorem upL_swap {I : SL} {i j : Nat} {a b : Nat → Int64} (h : i ≠ j) : upL (upL I i a) j b = upL (upL I j b) i a := by
  funext z
  unfold upL
  by_cases h1 : z = i
  · by_cases h2 : z = j
    · exact absurd (h1.symm.trans h2) h
    · simp [h1, h]
  · simp [h1]
theorem upL_ne {I : SL} {i j : Nat} {a : Nat → Int64} (h : j ≠ i) : upL I i a j = I j := by simp [upL, h]
theorem vp_of {x : Int32} {n : Nat} {k : Int32} (h0 : 0 ≤ x) (h1 : x ≤ k) (hk : k.toNatClampNeg < n) : vp_in x n := by
  intro h
  rcases h with h | h
  · exact absurd h (by rw [Int32.not_lt]; exact h0)
  · have h2 : x.toInt ≤ k.toInt := Int32.le_iff_toInt_le.mp h1
    unfold Int32.toNatClampNeg at h hk
    omega
theorem st_eq1 {I J : SI} {c0 : Nat} {r0 : Nat → Int32} (h0 : J c0 = r0) (h : ∀ z, z ≠ c0 → J z = I z) : J = (up I c0 r0) := by
  funext z
  by_cases g0 : z = c0
  · rw [g0, h0]; simp [up]
  · rw [h z g0]; simp [up, g0]
theorem st_eq2 {I J : SI} {c0 c1 : Nat} {r0 r1 : Nat → Int32} (h0 : J c0 = r0) (h1 : J c1 = r1) (h : ∀ z, z ≠ c0 → z ≠ c1 → J z = I z) : J = (up (up I c0 r0) c1 r1) := by
  funext z
  by_cases g1 : z = c1
  · rw [g1, h1]; simp [up]
  · skip
    by_cases g0 : z = c0
    · have q1 : ¬ c0 = c1 := fun q => g1 (g0.trans q)
      rw [g0, h0]
      simp [up, q1]
    · rw [h z g0 g1]; simp [up, g0, g1]
theorem st_eq3 {I J : SI} {c0 c1 c2 : Nat} {r0 r1 r2 : Nat → Int32} (h0 : J c0 = r0) (h1 : J c1 = r1) (h2 : J c2 = r2) (h : ∀ z, z ≠ c0 → z ≠ c1 → z ≠ c2 → J z = I z) : J = (up (up (up I c0 r0) c1 r1) c2 r2) := by
  funext z
  by_cases g2 : z = c2
  · rw [g2, h2]; simp [up]
  · skip
    by_cases g1 : z = c1
    · have q2 : ¬ c1 = c2 := fun q => g2 (g1.trans q)
      rw [g1, h1]
      simp [up, q2]
    · skip
      by_cases g0 : z = c0
      · have q1 : ¬ c0 = c1 := fun q => g1 (g0.trans q)
        have q2 : ¬ c0 = c2 := fun q => g2 (g0.trans q)
        rw [g0, h0]
        simp [up, q1, q2]
      · rw [h z g0 g1 g2]; simp [up, g0, g1, g2]
theorem st_eq4 {I J : SI} {c0 c1 c2 c3 : Nat} {r0 r1 r2 r3 : Nat → Int32} (h0 : J c0 = r0) (h1 : J c1 = r1) (h2 : J c2 = r2) (h3 : J c3 = r3) (h : ∀ z, z ≠ c0 → z ≠ c1 → z ≠ c2 → z ≠ c3 → J z = I z) : J = (up (up (up (up I c0 r0) c1 r1) c2 r2) c3 r3) := by
  funext z
  by_cases g3 : z = c3
  · rw [g3, h3]; simp [up]
  · skip
    by_cases g2 : z = c2
    · have q3 : ¬ c2 = c3 := fun q => g3 (g2.trans q)
      rw [g2, h2]
      simp [up, q3]
    · skip
      by_cases g1 : z = c1
      · have q2 : ¬ c1 = c2 := fun q => g2 (g1.trans q)
        have q3 : ¬ c1 = c3 := fun q => g3 (g1.trans q)
        rw [g1, h1]
        simp [up, q2, q3]
      · skip
        by_cases g0 : z = c0
        · have q1 : ¬ c0 = c1 := fun q => g1 (g0.trans q)
          have q2 : ¬ c0 = c2 := fun q => g2 (g0.trans q)
          have q3 : ¬ c0 = c3 := fun q => g3 (g0.trans q)
          rw [g0, h0]
          simp [up, q1, q2, q3]
        · rw [h z g0 g1 g2 g3]; simp [up, g0, g1, g2, g3]
theorem st_eq5 {I J : SI} {c0 c1 c2 c3 c4 : Nat} {r0 r1 r2 r3 r4 : Nat → Int32} (h0 : J c0 = r0) (h1 : J c1 = r1) (h2 : J c2 = r2) (h3 : J c3 = r3) (h4 : J c4 = r4) (h : ∀ z, z ≠ c0 → z ≠ c1 → z ≠ c2 → z ≠ c3 → z ≠ c4 → J z = I z) : J = (up (up (up (up (up I c0 r0) c1 r1) c2 r2) c3 r3) c4 r4) := by
  funext z
  by_cases g4 : z = c4
  · rw [g4, h4]; simp [up]
  · skip
    by_cases g3 : z = c3
    · have q4 : ¬ c3 = c4 := fun q => g4 (g3.trans q)
      rw [g3, h3]
      simp [up, q4]
    · skip
      by_cases g2 : z = c2
      · have q3 : ¬ c2 = c3 := fun q => g3 (g2.trans q)
        have q4 : ¬ c2 = c4 := fun q => g4 (g2.trans q)
        rw [g2, h2]
        simp [up, q3, q4]
      · skip
        by_cases g1 : z = c1
        · have q2 : ¬ c1 = c2 := fun q => g2 (g1.trans q)
          have q3 : ¬ c1 = c3 := fun q => g3 (g1.trans q)
          have q4 : ¬ c1 = c4 := fun q => g4 (g1.trans q)
          rw [g1, h1]
          simp [up, q2, q3, q4]
        · skip
          by_cases g0 : z = c0
          · have q1 : ¬ c0 = c1 := fun q => g1 (g0.trans q)
            have q2 : ¬ c0 = c2 := fun q => g2 (g0.trans q)
            have q3 : ¬ c0 = c3 := fun q => g3 (g0.trans q)
            have q4 : ¬ c0 = c4 := fun q => g4 (g0.trans q)
            rw [g0, h0]
            simp [up, q1, q2, q3, q4]
          · rw [h z g0 g1 g2 g3 g4]; simp [up, g0, g1, g2, g3, g4]
theorem st_eq6 {I J : SI} {c0 c1 c2 c3 c4 c5 : Nat} {r0 r1 r2 r3 r4 r5 : Nat → Int32} (h0 : J c0 = r0) (h1 : J c1 = r1) (h2 : J c2 = r2) (h3 : J c3 = r3) (h4 : J c4 = r4) (h5 : J c5 = r5) (h : ∀ z, z ≠ c0 → z ≠ c1 → z ≠ c2 → z ≠ c3 → z ≠ c4 → z ≠ c5 → J z = I z) : J = (up (up (up (up (up (up I c0 r0) c1 r1) c2 r2) c3 r3) c4 r4) c5 r5) := by
  funext z
  by_cases g5 : z = c5
  · rw [g5, h5]; simp [up]
  · skip
    by_cases g4 : z = c4
    · have q5 : ¬ c4 = c5 := fun q => g5 (g4.trans q)
      rw [g4, h4]
      simp [up, q5]
    · skip
      by_cases g3 : z = c3
      · have q4 : ¬ c3 = c4 := fun q => g4 (g3.trans q)
        have q5 : ¬ c3 = c5 := fun q => g5 (g3.trans q)
        rw [g3, h3]
        simp [up, q4, q5]
      · skip
        by_cases g2 : z = c2
        · have q3 : ¬ c2 = c3 := fun q => g3 (g2.trans q)
          have q4 : ¬ c2 = c4 := fun q => g4 (g2.trans q)
          have q5 : ¬ c2 = c5 := fun q => g5 (g2.trans q)
          rw [g2, h2]
          simp [up, q3, q4, q5]
        · skip
          by_cases g1 : z = c1
          · have q2 : ¬ c1 = c2 := fun q => g2 (g1.trans q)
            have q3 : ¬ c1 = c3 := fun q => g3 (g1.trans q)
            have q4 : ¬ c1 = c4 := fun q => g4 (g1.trans q)
            have q5 : ¬ c1 = c5 := fun q => g5 (g1.trans q)
            rw [g1, h1]
            simp [up, q2, q3, q4, q5]
          · skip
            by_cases g0 : z = c0
            · have q1 : ¬ c0 = c1 := fun q => g1 (g0.trans q)
              have q2 : ¬ c0 = c2 := fun q => g2 (g0.trans q)
              have q3 : ¬ c0 = c3 := fun q => g3 (g0.trans q)
              have q4 : ¬ c0 = c4 := fun q => g4 (g0.trans q)
              have q5 : ¬ c0 = c5 := fun q => g5 (g0.trans q)
              rw [g0, h0]
              simp [up, q1, q2, q3, q4, q5]
            · rw [h z g0 g1 g2 g3 g4 g5]; simp [up, g0, g1, g2, g3, g4, g5]
theorem st_eq7 {I J : SI} {c0 c1 c2 c3 c4 c5 c6 : Nat} {r0 r1 r2 r3 r4 r5 r6 : Nat → Int32} (h0 : J c0 = r0) (h1 : J c1 = r1) (h2 : J c2 = r2) (h3 : J c3 = r3) (h4 : J c4 = r4) (h5 : J c5 = r5) (h6 : J c6 = r6) (h : ∀ z, z ≠ c0 → z ≠ c1 → z ≠ c2 → z ≠ c3 → z ≠ c4 → z ≠ c5 → z ≠ c6 → J z = I z) : J = (up (up (up (up (up (up (up I c0 r0) c1 r1) c2 r2) c3 r3) c4 r4) c5 r5) c6 r6) := by
  funext z
  by_cases g6 : z = c6
  · rw [g6, h6]; simp [up]
  · skip
    by_cases g5 : z = c5
    · have q6 : ¬ c5 = c6 := fun q => g6 (g5.trans q)
      rw [g5, h5]
      simp [up, q6]
    · skip
      by_cases g4 : z = c4
      · have q5 : ¬ c4 = c5 := fun q => g5 (g4.trans q)
        have q6 : ¬ c4 = c6 := fun q => g6 (g4.trans q)
        rw [g4, h4]
        simp [up, q5, q6]
      · skip
        by_cases g3 : z = c3
        · have q4 : ¬ c3 = c4 := fun q => g4 (g3.trans q)
          have q5 : ¬ c3 = c5 := fun q => g5 (g3.trans q)
          have q6 : ¬ c3 = c6 := fun q => g6 (g3.trans q)
          rw [g3, h3]
          simp [up, q4, q5, q6]
        · skip
          by_cases g2 : z = c2
          · have q3 : ¬ c2 = c3 := fun q => g3 (g2.trans q)
            have q4 : ¬ c2 = c4 := fun q => g4 (g2.trans q)
            have q5 : ¬ c2 = c5 := fun q => g5 (g2.trans q)
            have q6 : ¬ c2 = c6 := fun q => g6 (g2.trans q)
            rw [g2, h2]
            simp [up, q3, q4, q5, q6]
          · skip
            by_cases g1 : z = c1
            · have q2 : ¬ c1 = c2 := fun q => g2 (g1.trans q)
              have q3 : ¬ c1 = c3 := fun q => g3 (g1.trans q)
              have q4 : ¬ c1 = c4 := fun q => g4 (g1.trans q)
              have q5 : ¬ c1 = c5 := fun q => g5 (g1.trans q)
              have q6 : ¬ c1 = c6 := fun q => g6 (g1.trans q)
              rw [g1, h1]
              simp [up, q2, q3, q4, q5, q6]
            · skip
              by_cases g0 : z = c0
              · have q1 : ¬ c0 = c1 := fun q => g1 (g0.trans q)
                have q2 : ¬ c0 = c2 := fun q => g2 (g0.trans q)
                have q3 : ¬ c0 = c3 := fun q => g3 (g0.trans q)
                have q4 : ¬ c0 = c4 := fun q => g4 (g0.trans q)
                have q5 : ¬ c0 = c5 := fun q => g5 (g0.trans q)
                have q6 : ¬ c0 = c6 := fun q => g6 (g0.trans q)
                rw [g0, h0]
                simp [up, q1, q2, q3, q4, q5, q6]
              · rw [h z g0 g1 g2 g3 g4 g5 g6]; simp [up, g0, g1, g2, g3, g4, g5, g6]
theorem st_eq8 {I J : SI} {c0 c1 c2 c3 c4 c5 c6 c7 : Nat} {r0 r1 r2 r3 r4 r5 r6 r7 : Nat → Int32} (h0 : J c0 = r0) (h1 : J c1 = r1) (h2 : J c2 = r2) (h3 : J c3 = r3) (h4 : J c4 = r4) (h5 : J c5 = r5) (h6 : J c6 = r6) (h7 : J c7 = r7) (h : ∀ z, z ≠ c0 → z ≠ c1 → z ≠ c2 → z ≠ c3 → z ≠ c4 → z ≠ c5 → z ≠ c6 → z ≠ c7 → J z = I z) : J = (up (up (up (up (up (up (up (up I c0 r0) c1 r1) c2 r2) c3 r3) c4 r4) c5 r5) c6 r6) c7 r7) := by
  funext z
  by_cases g7 : z = c7
  · rw [g7, h7]; simp [up]
  · skip
    by_cases g6 : z = c6
    · have q7 : ¬ c6 = c7 := fun q => g7 (g6.trans q)
      rw [g6, h6]
      simp [up, q7]
    · skip
      by_cases g5 : z = c5
      · have q6 : ¬ c5 = c6 := fun q => g6 (g5.trans q)
        have q7 : ¬ c5 = c7 := fun q => g7 (g5.trans q)
        rw [g5, h5]
        simp [up, q6, q7]
      · skip
        by_cases g4 : z = c4
        · have q5 : ¬ c4 = c5 := fun q => g5 (g4.trans q)
          have q6 : ¬ c4 = c6 := fun q => g6 (g4.trans q)
          have q7 : ¬ c4 = c7 := fun q => g7 (g4.trans q)
          rw [g4, h4]
          simp [up, q5, q6, q7]
        · skip
          by_cases g3 : z = c3
          · have q4 : ¬ c3 = c4 := fun q => g4 (g3.trans q)
            have q5 : ¬ c3 = c5 := fun q => g5 (g3.trans q)
            have q6 : ¬ c3 = c6 := fun q => g6 (g3.trans q)
            have q7 : ¬ c3 = c7 := fun q => g7 (g3.trans q)
            rw [g3, h3]
            simp [up, q4, q5, q6, q7]
          · skip
            by_cases g2 : z = c2
            · have q3 : ¬ c2 = c3 := fun q => g3 (g2.trans q)
              have q4 : ¬ c2 = c4 := fun q => g4 (g2.trans q)
              have q5 : ¬ c2 = c5 := fun q => g5 (g2.trans q)
              have q6 : ¬ c2 = c6 := fun q => g6 (g2.trans q)
              have q7 : ¬ c2 = c7 := fun q => g7 (g2.trans q)
              rw [g2, h2]
              simp [up, q3, q4, q5, q6, q7]
            · skip
              by_cases g1 : z = c1
              · have q2 : ¬ c1 = c2 := fun q => g2 (g1.trans q)
                have q3 : ¬ c1 = c3 := fun q => g3 (g1.trans q)
                have q4 : ¬ c1 = c4 := fun q => g4 (g1.trans q)
                have q5 : ¬ c1 = c5 := fun q => g5 (g1.trans q)
                have q6 : ¬ c1 = c6 := fun q => g6 (g1.trans q)
                have q7 : ¬ c1 = c7 := fun q => g7 (g1.trans q)
                rw [g1, h1]
                simp [up, q2, q3, q4, q5, q6, q7]
              · skip
                by_cases g0 : z = c0
                · have q1 : ¬ c0 = c1 := fun q => g1 (g0.trans q)
                  have q2 : ¬ c0 = c2 := fun q => g2 (g0.trans q)
                  have q3 : ¬ c0 = c3 := fun q => g3 (g0.trans q)
                  have q4 : ¬ c0 = c4 := fun q => g4 (g0.trans q)
                  have q5 : ¬ c0 = c5 := fun q => g5 (g0.trans q)
                  have q6 : ¬ c0 = c6 := fun q => g6 (g0.trans q)
                  have q7 : ¬ c0 = c7 := fun q => g7 (g0.trans q)
                  rw [g0, h0]
                  simp [up, q1, q2, q3, q4, q5, q6, q7]
                · rw [h z g0 g1 g2 g3 g4 g5 g6 g7]; simp [up, g0, g1, g2, g3, g4, g5, g6, g7]
theorem st_eq9 {I J : SI} {c0 c1 c2 c3 c4 c5 c6 c7 c8 : Nat} {r0 r1 r2 r3 r4 r5 r6 r7 r8 : Nat → Int32} (h0 : J c0 = r0) (h1 : J c1 = r1) (h2 : J c2 = r2) (h3 : J c3 = r3) (h4 : J c4 = r4) (h5 : J c5 = r5) (h6 : J c6 = r6) (h7 : J c7 = r7) (h8 : J c8 = r8) (h : ∀ z, z ≠ c0 → z ≠ c1 → z ≠ c2 → z ≠ c3 → z ≠ c4 → z ≠ c5 → z ≠ c6 → z ≠ c7 → z ≠ c8 → J z = I z) : J = (up (up (up (up (up (up (up (up (up I c0 r0) c1 r1) c2 r2) c3 r3) c4 r4) c5 r5) c6 r6) c7 r7) c8 r8) := by
  funext z
  by_cases g8 : z = c8
  · rw [g8, h8]; simp [up]
  · skip
    by_cases g7 : z = c7
    · have q8 : ¬ c7 = c8 := fun q => g8 (g7.trans q)
      rw [g7, h7]
      simp [up, q8]
    · skip
      by_cases g6 : z = c6
      · have q7 : ¬ c6 = c7 := fun q => g7 (g6.trans q)
        have q8 : ¬ c6 = c8 := fun q => g8 (g6.trans q)
        rw [g6, h6]
        simp [up, q7, q8]
      · skip
        by_cases g5 : z = c5
        · have q6 : ¬ c5 = c6 := fun q => g6 (g5.trans q)
          have q7 : ¬ c5 = c7 := fun q => g7 (g5.trans q)
          have q8 : ¬ c5 = c8 := fun q => g8 (g5.trans q)
          rw [g5, h5]
          simp [up, q6, q7, q8]
        · skip
          by_cases g4 : z = c4
          · have q5 : ¬ c4 = c5 := fun q => g5 (g4.trans q)
            have q6 : ¬ c4 = c6 := fun q => g6 (g4.trans q)
            have q7 : ¬ c4 = c7 := fun q => g7 (g4.trans q)
            have q8 : ¬ c4 = c8 := fun q => g8 (g4.trans q)
            rw [g4, h4]
            simp [up, q5, q6, q7, q8]
          · skip
            by_cases g3 : z = c3
            · have q4 : ¬ c3 = c4 := fun q => g4 (g3.trans q)
              have q5 : ¬ c3 = c5 := fun q => g5 (g3.trans q)
              have q6 : ¬ c3 = c6 := fun q => g6 (g3.trans q)
              have q7 : ¬ c3 = c7 := fun q => g7 (g3.trans q)
              have q8 : ¬ c3 = c8 := fun q => g8 (g3.trans q)
              rw [g3, h3]
              simp [up, q4, q5, q6, q7, q8]
            · skip
              by_cases g2 : z = c2
              · have q3 : ¬ c2 = c3 := fun q => g3 (g2.trans q)
                have q4 : ¬ c2 = c4 := fun q => g4 (g2.trans q)
                have q5 : ¬ c2 = c5 := fun q => g5 (g2.trans q)
                have q6 : ¬ c2 = c6 := fun q => g6 (g2.trans q)
                have q7 : ¬ c2 = c7 := fun q => g7 (g2.trans q)
                have q8 : ¬ c2 = c8 := fun q => g8 (g2.trans q)
                rw [g2, h2]
                simp [up, q3, q4, q5, q6, q7, q8]
              · skip
                by_cases g1 : z = c1
                · have q2 : ¬ c1 = c2 := fun q => g2 (g1.trans q)
                  have q3 : ¬ c1 = c3 := fun q => g3 (g1.trans q)
                  have q4 : ¬ c1 = c4 := fun q => g4 (g1.trans q)
                  have q5 : ¬ c1 = c5 := fun q => g5 (g1.trans q)
                  have q6 : ¬ c1 = c6 := fun q => g6 (g1.trans q)
                  have q7 : ¬ c1 = c7 := fun q => g7 (g1.trans q)
                  have q8 : ¬ c1 = c8 := fun q => g8 (g1.trans q)
                  rw [g1, h1]
                  simp [up, q2, q3, q4, q5, q6, q7, q8]
                · skip
                  by_cases g0 : z = c0
                  · have q1 : ¬ c0 = c1 := fun q => g1 (g0.trans q)
                    have q2 : ¬ c0 = c2 := fun q => g2 (g0.trans q)
                    have q3 : ¬ c0 = c3 := fun q => g3 (g0.trans q)
                    have q4 : ¬ c0 = c4 := fun q => g4 (g0.trans q)
                    have q5 : ¬ c0 = c5 := fun q => g5 (g0.trans q)
                    have q6 : ¬ c0 = c6 := fun q => g6 (g0.trans q)
                    have q7 : ¬ c0 = c7 := fun q => g7 (g0.trans q)
                    have q8 : ¬ c0 = c8 := fun q => g8 (g0.trans q)
                    rw [g0, h0]
                    simp [up, q1, q2, q3, q4, q5, q6, q7, q8]
                  · rw [h z g0 g1 g2 g3 g4 g5 g6 g7 g8]; simp [up, g0, g1, g2, g3, g4, g5, g6, g7, g8]
theorem lt_eq1 {I J : SL} {c0 : Nat} {r0 : Nat → Int64} (h0 : J c0 = r0) (h : ∀ z, z ≠ c0 → J z = I z) : J = (upL I c0 r0) := by
  funext z
  by_cases g0 : z = c0
  · rw [g0, h0]; simp [upL]
  · rw [h z g0]; simp [upL, g0]
theorem lt_eq2 {I J : SL} {c0 c1 : Nat} {r0 r1 : Nat → Int64} (h0 : J c0 = r0) (h1 : J c1 = r1) (h : ∀ z, z ≠ c0 → z ≠ c1 → J z = I z) : J = (upL (upL I c0 r0) c1 r1) := by
  funext z
  by_cases g1 : z = c1
  · rw [g1, h1]; simp [upL]
  · skip
    by_cases g0 : z = c0
    · have q1 : ¬ c0 = c1 := fun q => g1 (g0.trans q)
      rw [g0, h0]
      simp [upL, q1]
    · rw [h z g0 g1]; simp [upL, g0, g1]
theorem lt_eq3 {I J : SL} {c0 c1 c2 : Nat} {r0 r1 r2 : Nat → Int64} (h0 : J c0 = r0) (h1 : J c1 = r1) (h2 : J c2 = r2) (h : ∀ z, z ≠ c0 → z ≠ c1 → z ≠ c2 → J z = I z) : J = (upL (upL (upL I c0 r0) c1 r1) c2 r2) := by
  funext z
  by_cases g2 : z = c2
  · rw [g2, h2]; simp [upL]
  · skip
    by_cases g1 : z = c1
    · have q2 : ¬ c1 = c2 := fun q => g2 (g1.trans q)
      rw [g1, h1]
      simp [upL, q2]
    · skip
      by_cases g0 : z = c0
      · have q1 : ¬ c0 = c1 := fun q => g1 (g0.trans q)
        have q2 : ¬ c0 = c2 := fun q => g2 (g0.trans q)
        rw [g0, h0]
        simp [upL, q1, q2]
      · rw [h z g0 g1 g2]; simp [upL, g0, g1, g2]
theorem lt_eq4 {I J : SL} {c0 c1 c2 c3 : Nat} {r0 r1 r2 r3 : Nat → Int64} (h0 : J c0 = r0) (h1 : J c1 = r1) (h2 : J c2 = r2) (h3 : J c3 = r3) (h : ∀ z, z ≠ c0 → z ≠ c1 → z ≠ c2 → z ≠ c3 → J z = I z) : J = (upL (upL (upL (upL I c0 r0) c1 r1) c2 r2) c3 r3) := by
  funext z
  by_cases g3 : z = c3
  · rw [g3, h3]; simp [upL]
  · skip
    by_cases g2 : z = c2
    · have q3 : ¬ c2 = c3 := fun q => g3 (g2.trans q)
      rw [g2, h2]
      simp [upL, q3]
    · skip
      by_cases g1 : z = c1
      · have q2 : ¬ c1 = c2 := fun q => g2 (g1.trans q)
        have q3 : ¬ c1 = c3 := fun q => g3 (g1.trans q)
        rw [g1, h1]
        simp [upL, q2, q3]
      · skip
        by_cases g0 : z = c0
        · have q1 : ¬ c0 = c1 := fun q => g1 (g0.trans q)
          have q2 : ¬ c0 = c2 := fun q => g2 (g0.trans q)
          have q3 : ¬ c0 = c3 := fun q => g3 (g0.trans q)
          rw [g0, h0]
          simp [upL, q1, q2, q3]
        · rw [h z g0 g1 g2 g3]; simp [upL, g0, g1, g2, g3]
theorem lt_eq5 {I J : SL} {c0 c1 c2 c3 c4 : Nat} {r0 r1 r2 r3 r4 : Nat → Int64} (h0 : J c0 = r0) (h1 : J c1 = r1) (h2 : J c2 = r2) (h3 : J c3 = r3) (h4 : J c4 = r4) (h : ∀ z, z ≠ c0 → z ≠ c1 → z ≠ c2 → z ≠ c3 → z ≠ c4 → J z = I z) : J = (upL (upL (upL (upL (upL I c0 r0) c1 r1) c2 r2) c3 r3) c4 r4) := by
  funext z
  by_cases g4 : z = c4
  · rw [g4, h4]; simp [upL]
  · skip
    by_cases g3 : z = c3
    · have q4 : ¬ c3 = c4 := fun q => g4 (g3.trans q)
      rw [g3, h3]
      simp [upL, q4]
    · skip
      by_cases g2 : z = c2
      · have q3 : ¬ c2 = c3 := fun q => g3 (g2.trans q)
        have q4 : ¬ c2 = c4 := fun q => g4 (g2.trans q)
        rw [g2, h2]
        simp [upL, q3, q4]
      · skip
        by_cases g1 : z = c1
        · have q2 : ¬ c1 = c2 := fun q => g2 (g1.trans q)
          have q3 : ¬ c1 = c3 := fun q => g3 (g1.trans q)
          have q4 : ¬ c1 = c4 := fun q => g4 (g1.trans q)
          rw [g1, h1]
          simp [upL, q2, q3, q4]
        · skip
          by_cases g0 : z = c0
          · have q1 : ¬ c0 = c1 := fun q => g1 (g0.trans q)
            have q2 : ¬ c0 = c2 := fun q => g2 (g0.trans q)
            have q3 : ¬ c0 = c3 := fun q => g3 (g0.trans q)
            have q4 : ¬ c0 = c4 := fun q => g4 (g0.trans q)
            rw [g0, h0]
            simp [upL, q1, q2, q3, q4]
          · rw [h z g0 g1 g2 g3 g4]; simp [upL, g0, g1, g2, g3, g4]
theorem lt_eq6 {I J : SL} {c0 c1 c2 c3 c4 c5 : Nat} {r0 r1 r2 r3 r4 r5 : Nat → Int64} (h0 : J c0 = r0) (h1 : J c1 = r1) (h2 : J c2 = r2) (h3 : J c3 = r3) (h4 : J c4 = r4) (h5 : J c5 = r5) (h : ∀ z, z ≠ c0 → z ≠ c1 → z ≠ c2 → z ≠ c3 → z ≠ c4 → z ≠ c5 → J z = I z) : J = (upL (upL (upL (upL (upL (upL I c0 r0) c1 r1) c2 r2) c3 r3) c4 r4) c5 r5) := by
  funext z
  by_cases g5 : z = c5
  · rw [g5, h5]; simp [upL]
  · skip
    by_cases g4 : z = c4
    · have q5 : ¬ c4 = c5 := fun q => g5 (g4.trans q)
      rw [g4, h4]
      simp [upL, q5]
    · skip
      by_cases g3 : z = c3
      · have q4 : ¬ c3 = c4 := fun q => g4 (g3.trans q)
        have q5 : ¬ c3 = c5 := fun q => g5 (g3.trans q)
        rw [g3, h3]
        simp [upL, q4, q5]
      · skip
        by_cases g2 : z = c2
        · have q3 : ¬ c2 = c3 := fun q => g3 (g2.trans q)
          have q4 : ¬ c2 = c4 := fun q => g4 (g2.trans q)
          have q5 : ¬ c2 = c5 := fun q => g5 (g2.trans q)
          rw [g2, h2]
          simp [upL, q3, q4, q5]
        · skip
          by_cases g1 : z = c1
          · have q2 : ¬ c1 = c2 := fun q => g2 (g1.trans q)
            have q3 : ¬ c1 = c3 := fun q => g3 (g1.trans q)
            have q4 : ¬ c1 = c4 := fun q => g4 (g1.trans q)
            have q5 : ¬ c1 = c5 := fun q => g5 (g1.trans q)
            rw [g1, h1]
            simp [upL, q2, q3, q4, q5]
          · skip
            by_cases g0 : z = c0
            · have q1 : ¬ c0 = c1 := fun q => g1 (g0.trans q)
              have q2 : ¬ c0 = c2 := fun q => g2 (g0.trans q)
              have q3 : ¬ c0 = c3 := fun q => g3 (g0.trans q)
              have q4 : ¬ c0 = c4 := fun q => g4 (g0.trans q)
              have q5 : ¬ c0 = c5 := fun q => g5 (g0.trans q)
              rw [g0, h0]
              simp [upL, q1, q2, q3, q4, q5]
            · rw [h z g0 g1 g2 g3 g4 g5]; simp [upL, g0, g1, g2, g3, g4, g5]
theorem lt_eq7 {I J : SL} {c0 c1 c2 c3 c4 c5 c6 : Nat} {r0 r1 r2 r3 r4 r5 r6 : Nat → Int64} (h0 : J c0 = r0) (h1 : J c1 = r1) (h2 : J c2 = r2) (h3 : J c3 = r3) (h4 : J c4 = r4) (h5 : J c5 = r5) (h6 : J c6 = r6) (h : ∀ z, z ≠ c0 → z ≠ c1 → z ≠ c2 → z ≠ c3 → z ≠ c4 → z ≠ c5 → z ≠ c6 → J z = I z) : J = (upL (upL (upL (upL (upL (upL (upL I c0 r0) c1 r1) c2 r2) c3 r3) c4 r4) c5 r5) c6 r6) := by
  funext z
  by_cases g6 : z = c6
  · rw [g6, h6]; simp [upL]
  · skip
    by_cases g5 : z = c5
    · have q6 : ¬ c5 = c6 := fun q => g6 (g5.trans q)
      rw [g5, h5]
      simp [upL, q6]
    · skip
      by_cases g4 : z = c4
      · have q5 : ¬ c4 = c5 := fun q => g5 (g4.trans q)
        have q6 : ¬ c4 = c6 := fun q => g6 (g4.trans q)
        rw [g4, h4]
        simp [upL, q5, q6]
      · skip
        by_cases g3 : z = c3
        · have q4 : ¬ c3 = c4 := fun q => g4 (g3.trans q)
          have q5 : ¬ c3 = c5 := fun q => g5 (g3.trans q)
          have q6 : ¬ c3 = c6 := fun q => g6 (g3.trans q)
          rw [g3, h3]
          simp [upL, q4, q5, q6]
        · skip
          by_cases g2 : z = c2
          · have q3 : ¬ c2 = c3 := fun q => g3 (g2.trans q)
            have q4 : ¬ c2 = c4 := fun q => g4 (g2.trans q)
            have q5 : ¬ c2 = c5 := fun q => g5 (g2.trans q)
            have q6 : ¬ c2 = c6 := fun q => g6 (g2.trans q)
            rw [g2, h2]
            simp [upL, q3, q4, q5, q6]
          · skip
            by_cases g1 : z = c1
            · have q2 : ¬ c1 = c2 := fun q => g2 (g1.trans q)
              have q3 : ¬ c1 = c3 := fun q => g3 (g1.trans q)
              have q4 : ¬ c1 = c4 := fun q => g4 (g1.trans q)
              have q5 : ¬ c1 = c5 := fun q => g5 (g1.trans q)
              have q6 : ¬ c1 = c6 := fun q => g6 (g1.trans q)
              rw [g1, h1]
              simp [upL, q2, q3, q4, q5, q6]
            · skip
              by_cases g0 : z = c0
              · have q1 : ¬ c0 = c1 := fun q => g1 (g0.trans q)
                have q2 : ¬ c0 = c2 := fun q => g2 (g0.trans q)
                have q3 : ¬ c0 = c3 := fun q => g3 (g0.trans q)
                have q4 : ¬ c0 = c4 := fun q => g4 (g0.trans q)
                have q5 : ¬ c0 = c5 := fun q => g5 (g0.trans q)
                have q6 : ¬ c0 = c6 := fun q => g6 (g0.trans q)
                rw [g0, h0]
                simp [upL, q1, q2, q3, q4, q5, q6]
              · rw [h z g0 g1 g2 g3 g4 g5 g6]; simp [upL, g0, g1, g2, g3, g4, g5, g6]
theorem lt_eq8 {I J : SL} {c0 c1 c2 c3 c4 c5 c6 c7 : Nat} {r0 r1 r2 r3 r4 r5 r6 r7 : Nat → Int64} (h0 : J c0 = r0) (h1 : J c1 = r1) (h2 : J c2 = r2) (h3 : J c3 = r3) (h4 : J c4 = r4) (h5 : J c5 = r5) (h6 : J c6 = r6) (h7 : J c7 = r7) (h : ∀ z, z ≠ c0 → z ≠ c1 → z ≠ c2 → z ≠ c3 → z ≠ c4 → z ≠ c5 → z ≠ c6 → z ≠ c7 → J z = I z) : J = (upL (upL (upL (upL (upL (upL (upL (upL I c0 r0) c1 r1) c2 r2) c3 r3) c4 r4) c5 r5) c6 r6) c7 r7) := by
  funext z
  by_cases g7 : z = c7
  · rw [g7, h7]; simp [upL]
  · skip
    by_cases g6 : z = c6
    · have q7 : ¬ c6 = c7 := fun q => g7 (g6.trans q)
      rw [g6, h6]
      simp [upL, q7]
    · skip
      by_cases g5 : z = c5
      · have q6 : ¬ c5 = c6 := fun q => g6 (g5.trans q)
        have q7 : ¬ c5 = c7 := fun q => g7 (g5.trans q)
        rw [g5, h5]
        simp [upL, q6, q7]
      · skip
        by_cases g4 : z = c4
        · have q5 : ¬ c4 = c5 := fun q => g5 (g4.trans q)
          have q6 : ¬ c4 = c6 := fun q => g6 (g4.trans q)
          have q7 : ¬ c4 = c7 := fun q => g7 (g4.trans q)
          rw [g4, h4]
          simp [upL, q5, q6, q7]
        · skip
          by_cases g3 : z = c3
          · have q4 : ¬ c3 = c4 := fun q => g4 (g3.trans q)
            have q5 : ¬ c3 = c5 := fun q => g5 (g3.trans q)
            have q6 : ¬ c3 = c6 := fun q => g6 (g3.trans q)
            have q7 : ¬ c3 = c7 := fun q => g7 (g3.trans q)
            rw [g3, h3]
            simp [upL, q4, q5, q6, q7]
          · skip
            by_cases g2 : z = c2
            · have q3 : ¬ c2 = c3 := fun q => g3 (g2.trans q)
              have q4 : ¬ c2 = c4 := fun q => g4 (g2.trans q)
              have q5 : ¬ c2 = c5 := fun q => g5 (g2.trans q)
              have q6 : ¬ c2 = c6 := fun q => g6 (g2.trans q)
              have q7 : ¬ c2 = c7 := fun q => g7 (g2.trans q)
              rw [g2, h2]
              simp [upL, q3, q4, q5, q6, q7]
            · skip
              by_cases g1 : z = c1
              · have q2 : ¬ c1 = c2 := fun q => g2 (g1.trans q)
                have q3 : ¬ c1 = c3 := fun q => g3 (g1.trans q)
                have q4 : ¬ c1 = c4 := fun q => g4 (g1.trans q)
                have q5 : ¬ c1 = c5 := fun q => g5 (g1.trans q)
                have q6 : ¬ c1 = c6 := fun q => g6 (g1.trans q)
                have q7 : ¬ c1 = c7 := fun q => g7 (g1.trans q)
                rw [g1, h1]
                simp [upL, q2, q3, q4, q5, q6, q7]
              · skip
                by_cases g0 : z = c0
                · have q1 : ¬ c0 = c1 := fun q => g1 (g0.trans q)
                  have q2 : ¬ c0 = c2 := fun q => g2 (g0.trans q)
                  have q3 : ¬ c0 = c3 := fun q => g3 (g0.trans q)
                  have q4 : ¬ c0 = c4 := fun q => g4 (g0.trans q)
                  have q5 : ¬ c0 = c5 := fun q => g5 (g0.trans q)
                  have q6 : ¬ c0 = c6 := fun q => g6 (g0.trans q)
                  have q7 : ¬ c0 = c7 := fun q => g7 (g0.trans q)
                  rw [g0, h0]
                  simp [upL, q1, q2, q3, q4, q5, q6, q7]
                · rw [h z g0 g1 g2 g3 g4 g5 g6 g7]; simp [upL, g0, g1, g2, g3, g4, g5, g6, g7]
theorem lt_eq9 {I J : SL} {c0 c1 c2 c3 c4 c5 c6 c7 c8 : Nat} {r0 r1 r2 r3 r4 r5 r6 r7 r8 : Nat → Int64} (h0 : J c0 = r0) (h1 : J c1 = r1) (h2 : J c2 = r2) (h3 : J c3 = r3) (h4 : J c4 = r4) (h5 : J c5 = r5) (h6 : J c6 = r6) (h7 : J c7 = r7) (h8 : J c8 = r8) (h : ∀ z, z ≠ c0 → z ≠ c1 → z ≠ c2 → z ≠ c3 → z ≠ c4 → z ≠ c5 → z ≠ c6 → z ≠ c7 → z ≠ c8 → J z = I z) : J = (upL (upL (upL (upL (upL (upL (upL (upL (upL I c0 r0) c1 r1) c2 r2) c3 r3) c4 r4) c5 r5) c6 r6) c7 r7) c8 r8) := by
  funext z
  by_cases g8 : z = c8
  · rw [g8, h8]; simp [upL]
  · skip
    by_cases g7 : z = c7
    · have q8 : ¬ c7 = c8 := fun q => g8 (g7.trans q)
      rw [g7, h7]
      simp [upL, q8]
    · skip
      by_cases g6 : z = c6
      · have q7 : ¬ c6 = c7 := fun q => g7 (g6.trans q)
        have q8 : ¬ c6 = c8 := fun q => g8 (g6.trans q)
        rw [g6, h6]
        simp [upL, q7, q8]
      · skip
        by_cases g5 : z = c5
        · have q6 : ¬ c5 = c6 := fun q => g6 (g5.trans q)
          have q7 : ¬ c5 = c7 := fun q => g7 (g5.trans q)
          have q8 : ¬ c5 = c8 := fun q => g8 (g5.trans q)
          rw [g5, h5]
          simp [upL, q6, q7, q8]
        · skip
          by_cases g4 : z = c4
          · have q5 : ¬ c4 = c5 := fun q => g5 (g4.trans q)
            have q6 : ¬ c4 = c6 := fun q => g6 (g4.trans q)
            have q7 : ¬ c4 = c7 := fun q => g7 (g4.trans q)
            have q8 : ¬ c4 = c8 := fun q => g8 (g4.trans q)
            rw [g4, h4]
            simp [upL, q5, q6, q7, q8]
          · skip
            by_cases g3 : z = c3
            · have q4 : ¬ c3 = c4 := fun q => g4 (g3.trans q)
              have q5 : ¬ c3 = c5 := fun q => g5 (g3.trans q)
              have q6 : ¬ c3 = c6 := fun q => g6 (g3.trans q)
              have q7 : ¬ c3 = c7 := fun q => g7 (g3.trans q)
              have q8 : ¬ c3 = c8 := fun q => g8 (g3.trans q)
              rw [g3, h3]
              simp [upL, q4, q5, q6, q7, q8]
            · skip
              by_cases g2 : z = c2
              · have q3 : ¬ c2 = c3 := fun q => g3 (g2.trans q)
                have q4 : ¬ c2 = c4 := fun q => g4 (g2.trans q)
                have q5 : ¬ c2 = c5 := fun q => g5 (g2.trans q)
                have q6 : ¬ c2 = c6 := fun q => g6 (g2.trans q)
                have q7 : ¬ c2 = c7 := fun q => g7 (g2.trans q)
                have q8 : ¬ c2 = c8 := fun q => g8 (g2.trans q)
                rw [g2, h2]
                simp [upL, q3, q4, q5, q6, q7, q8]
              · skip
                by_cases g1 : z = c1
                · have q2 : ¬ c1 = c2 := fun q => g2 (g1.trans q)
                  have q3 : ¬ c1 = c3 := fun q => g3 (g1.trans q)
                  have q4 : ¬ c1 = c4 := fun q => g4 (g1.trans q)
                  have q5 : ¬ c1 = c5 := fun q => g5 (g1.trans q)
                  have q6 : ¬ c1 = c6 := fun q => g6 (g1.trans q)
                  have q7 : ¬ c1 = c7 := fun q => g7 (g1.trans q)
                  have q8 : ¬ c1 = c8 := fun q => g8 (g1.trans q)
                  rw [g1, h1]
                  simp [upL, q2, q3, q4, q5, q6, q7, q8]
                · skip
                  by_cases g0 : z = c0
                  · have q1 : ¬ c0 = c1 := fun q => g1 (g0.trans q)
                    have q2 : ¬ c0 = c2 := fun q => g2 (g0.trans q)
                    have q3 : ¬ c0 = c3 := fun q => g3 (g0.trans q)
                    have q4 : ¬ c0 = c4 := fun q => g4 (g0.trans q)
                    have q5 : ¬ c0 = c5 := fun q => g5 (g0.trans q)
                    have q6 : ¬ c0 = c6 := fun q => g6 (g0.trans q)
                    have q7 : ¬ c0 = c7 := fun q => g7 (g0.trans q)
                    have q8 : ¬ c0 = c8 := fun q => g8 (g0.trans q)
                    rw [g0, h0]
                    simp [upL, q1, q2, q3, q4, q5, q6, q7, q8]
                  · rw [h z g0 g1 g2 g3 g4 g5 g6 g7 g8]; simp [upL, g0, g1, g2, g3, g4, g5, g6, g7, g8]
