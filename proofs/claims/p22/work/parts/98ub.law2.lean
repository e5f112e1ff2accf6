theorem tk4_of {q v lo hi : Nat} (hq : q < 4) (h0 : e_tab 0 (6 + q) = nI lo) (h1 : e_tab 1 (6 + q) = nI hi) (hlo : lo ≤ v) (hhi : v ≤ hi) (hb : hi < 2 ^ 31) : TK4 (nI q) (nI v) := by
  refine ⟨⟨nI_pos (by omega), nI_ge (b := 4) hq (by decide)⟩, ?_⟩
  rw [nI_clamp (by omega), h0, h1]
  exact inR hlo hhi hb
