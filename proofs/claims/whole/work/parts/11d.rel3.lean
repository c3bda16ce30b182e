theorem s_or9_neg {k : Nat} (h : s_or9 k < 0) (hk : k < 2 ^ 31) : k = 99 := by
  unfold s_or9 at h
  by_cases q : k = 99
  · exact q
  · rw [if_neg q] at h
    exact absurd h (nI_pos hk)
