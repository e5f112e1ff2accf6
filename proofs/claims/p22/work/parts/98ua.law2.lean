theorem tk6_of {q v lo hi : Nat} (hq : q < 6) (h0 : e_tab 0 q = nI lo) (h1 : e_tab 1 q = nI hi) (hlo : lo ≤ v) (hhi : v ≤ hi) (hb : hi < 2 ^ 31) : TK6 (nI q) (nI v) := by
  refine ⟨⟨nI_pos (by omega), nI_ge (b := 6) hq (by decide)⟩, ?_⟩
  rw [nI_clamp (by omega), h0, h1]
  exact inR hlo hhi hb
