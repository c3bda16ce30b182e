/-! the reference reads, more -/
theorem c_least_0 {c : Int32} (h1 : ¬ c = 97) (h2 : ¬ c = 112) (h3 : ¬ c = 115) (h4 : ¬ c = 116) (h5 : ¬ c = 120) : c_least c = 0 := by
  unfold c_least
  rw [if_neg h1, if_neg h2, if_neg h3, if_neg h4, if_neg h5]
theorem g_stop_0 {L : Nat → Int32} {K p : Nat} (hp : p ≤ K) (h : p < K → c_least (L p) = 0) : g_stop L K p p := by
  refine ⟨Nat.le_refl p, hp, fun x a b => absurd b (by omega), fun q => ?_⟩
  unfold c_good
  rw [if_pos rfl]
  exact fun z => (of_decide_eq_true z) (h q)
/-- what is left of numbers read from 0 on -/
theorem RDg_n {G G1 : zG} {L : Nat → Int32} {K p j i : Nat} (h : RDg G G1 L K p 0 j) (hi : i < j) : G1 103 i = nI (dn L (p + i)) := by
  have := (h.1 i hi).2.2
  rw [Nat.zero_add] at this
  exact this
theorem RDg_s {G G1 : zG} {L : Nat → Int32} {K p i : Nat} (h : RDg G G1 L K (p + 1 + 1) 1 2) (h1 : 1 ≤ i) (hi : i < 3) : G1 103 i = nI (dn L (p + 1 + i)) := by
  have := (h.1 (i - 1) (by omega)).2.2
  rw [show 1 + (i - 1) = i by omega, show p + 1 + 1 + (i - 1) = p + 1 + i by omega] at this
  exact this
