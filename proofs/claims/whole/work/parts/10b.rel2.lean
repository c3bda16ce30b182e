theorem zFA_fr {G G1 : zG} {r : Nat → Int32} {n na : Nat} (h : zFA G 1 r n na) (hF : ∀ k, (1 ≤ k ∧ k ≤ 21) → G1 k = G k) (hna : na ≤ 5) : zFA G1 1 r n na := by
  refine ⟨?_, ?_, ?_, ?_⟩
  · rw [hF _ (by omega)]; exact h.1
  · rw [hF _ (by omega)]; exact h.2.1
  · intro j hj
    rw [hF _ (by omega), hF _ (by omega), hF _ (by omega)]
    exact h.2.2.1 j hj
  · intro a ha
    have h4 := h.2.2.2 a ha
    refine ⟨fun w hw => ?_, fun j hj => ?_⟩
    · rw [hF _ (by omega)]; exact h4.1 w hw
    · rw [hF _ (by omega)]; exact h4.2 j hj
theorem m_run_neg (r : Nat → Int32) (a : Nat) : ∀ i, i ≤ 10 → m_run r a (-9) i = m_run r a (-1) i
  | 0, _ => rfl
  | i + 1, hi => by
    have ih := m_run_neg r a i (by omega)
    have h1 : ¬ nI i = -9 := fun q => nI_pos (show i < 2 ^ 31 by omega) (by rw [q]; decide)
    have h2 : ¬ nI i = -1 := fun q => nI_pos (show i < 2 ^ 31 by omega) (by rw [q]; decide)
    unfold m_run
    simp only [ih]
    rw [if_neg h1, if_neg h2]
theorem m_sc_neg (r : Nat → Int32) (a : Nat) {i : Nat} (hi : i < 10) : m_sc r a (-9) i = m_sc r a (-1) i := by
  unfold m_sc
  rw [m_run_neg r a i (by omega)]
theorem zTA_ran9 {G G1 : zG} {r : Nat → Int32} {n a t : Nat} {x : Int32} (h : zTA G t r a n) (hk : zKd r n) (hn : n ≤ 10) (hr : (zt_run G t n).2 = x) (hrow : ∀ j, j < n → G1 (t + 8) j = zt_sc G t j ∧ G1 (t + 9) j = (zt_run G t (j + 1)).1 ∧ G1 (t + 10) j = (zt_run G t (j + 1)).2) (hd : G t 2 = -9) : (m_run r a (-1) n).2 = x ∧ zT3 G1 t r a (-1) n := by
  obtain ⟨h1, h2⟩ := zTA_ran h hk hn hr hrow hd
  refine ⟨by rw [← m_run_neg r a n hn]; exact h1, fun j hj => ?_⟩
  obtain ⟨a1, a2, a3⟩ := h2 j hj
  rw [← m_run_neg r a (j + 1) (by omega), ← m_sc_neg r a (by omega)]
  exact ⟨a1, a2, a3⟩
