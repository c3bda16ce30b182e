theorem zFA_fr22 {G G1 : zG} {r : Nat → Int32} {n na : Nat} (h : zFA G 22 r n na) (hF : ∀ k, (22 ≤ k ∧ k ≤ 42) → G1 k = G k) (hna : na ≤ 5) : zFA G1 22 r n na := by
  refine ⟨?_, ?_, ?_, ?_⟩
  · rw [hF _ (by omega)]; exact h.1
  · rw [hF _ (by omega)]; exact h.2.1
  · intro j hj
    rw [hF _ (by omega), hF _ (by omega), hF _ (by omega)]
    exact h.2.2.1 j hj
  · intro a ha
    have h4 := h.2.2.2 a ha
    refine ⟨fun w hw => ?_, fun j hj => ?_⟩
    · rw [hF _ (by omega)]; exact h4.1 w hw
    · rw [hF _ (by omega)]; exact h4.2 j hj
