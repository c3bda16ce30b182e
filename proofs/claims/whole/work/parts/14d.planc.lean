/-! the class's planner -/
/-- the planner has looked at athlete a of r -/
def zPn (G : zG) (r : Nat → Int32) (a n : Nat) : Prop := G 70 0 = nI n ∧ G 70 1 = nI (q_g r a) ∧ ∀ j, j < n → G 71 j = r (2 + 3 * j) ∧ G 72 j = r (4 + 3 * j) ∧ G 73 j = m_plain r a j
theorem zPn_fr {G G1 : zG} {r : Nat → Int32} {a n : Nat} (h : zPn G r a n) (hF : ∀ k, (k < 75 ∨ 85 < k) → G1 k = G k) : zPn G1 r a n := by
  unfold zPn
  rw [hF 70 (by omega), hF 71 (by omega), hF 72 (by omega), hF 73 (by omega)]
  exact h
theorem m_leg_k {r : Nat → Int32} {n i : Nat} {x t g : Int32} (hs : zVs r n) (hi : i < n) : m_leg (r (2 + 3 * i)) x t g = s_leg (r (2 + 3 * i)) x t g := by
  obtain ⟨k, _, _, hk, _, _, _, e, _⟩ := hs i hi
  rw [e, m_leg_s hk]
