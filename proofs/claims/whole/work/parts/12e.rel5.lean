/-! more of the two, and of orders -/
theorem z_ib0 {b : Bool} (h : (if b = true then (1 : Int32) else 0) = 0) : b = false := by
  cases b
  · rfl
  · exact absurd h (by decide)
theorem z_ib1 {b : Bool} (h : ¬ (if b = true then (1 : Int32) else 0) = 0) : b = true := by
  cases b
  · exact absurd rfl h
  · rfl
theorem s_up_l {F g : Nat → Int32} {k : Nat} {v : Int32} (h : ∀ j, j < k → F j = g j) (hv : g k = v) : ∀ j, j < k + 1 → upd F k v j = g j := fun j hj => by
  by_cases e : j = k
  · subst e; exact pk_us.trans hv.symm
  · exact (pk_un e).trans (h j (by omega))
theorem s_hind_q (r : Nat → Int32) (n a i k g : Nat) : s_hind (q_tries r n a i) k g = q_try r n a i (nI k) + (if k < g then 5 else 0) := by
  unfold s_hind
  by_cases h : k < g
  · rw [if_pos h, if_pos h]; rfl
  · rw [if_neg h, if_neg h, Int32.add_zero]; rfl
