/-! the class's planner -/
/-- the planner has looked at athlete a of r -/
def zPn (G : zG) (r : Nat → Int32) (a n : Nat) : Prop := G 70 0 = nI n ∧ G 70 1 = nI (q_g r a) ∧ ∀ j, j < n → G 71 j = r (2 + 3 * j) ∧ G 72 j = r (4 + 3 * j) ∧ G 73 j = m_plain r a j
theorem zPn_fr {G G1 : zG} {r : Nat → Int32} {a n : Nat} (h : zPn G r a n) (hF : ∀ k, (k < 75 ∨ 85 < k) → G1 k = G k) : zPn G1 r a n := by
  unfold zPn
  rw [hF 70 (by omega), hF 71 (by omega), hF 72 (by omega), hF 73 (by omega)]
  exact h
theorem m_leg_k {r : Nat → Int32} {n i : Nat} {x t g : Int32} (hs : zVs r n) (hi : i < n) : m_leg (r (2 + 3 * i)) x t g = s_leg (r (2 + 3 * i)) x t g := by
  obtain ⟨k, _, _, hk, _, _, _, e, _⟩ := hs i hi
  rw [e, m_leg_s hk]
theorem s_arg_c {f g : Nat → Int32} : ∀ {k : Nat}, (∀ v, v ≤ k → f v = g v) → s_arg f k = s_arg g k
  | 0, _ => rfl
  | k + 1, h => by
    have l := s_arg_le g k
    show (if f (k + 1) < f (s_arg f k) then k + 1 else s_arg f k) = (if g (k + 1) < g (s_arg g k) then k + 1 else s_arg g k)
    rw [s_arg_c (k := k) (fun v hv => h v (by omega)), h (k + 1) (Nat.le_refl _), h (s_arg g k) (by omega)]
theorem p_with_T {r : Nat → Int32} {n a i g v : Nat} {T U : Nat → Int32} (hs : zVs r n) (hi : i < n) (hg : g < 100) (hv : v < 4) (h : ∀ x, x < 100 → T x = U x) : p_with r a i T g v = p_with r a i U g v := by
  unfold p_with
  rw [h _ (p_leg_e hs hi hg hv).2]
theorem p_arg_T {r : Nat → Int32} {n a i g : Nat} {T U : Nat → Int32} (hs : zVs r n) (hi : i < n) (hg : g < 100) (h : ∀ x, x < 100 → T x = U x) : s_arg (p_with r a i T g) 3 = s_arg (p_with r a i U g) 3 := s_arg_c fun v hv => p_with_T hs hi hg (by omega) h
theorem p_to_T {r : Nat → Int32} {n a i k g : Nat} {T : Nat → Int32} (hs : zVs r n) (hi : i + k + 1 = n) (hg : g < 100) (h : ∀ x, x < 100 → T x = p_to r a n k x) : p_with r a i T g (s_arg (p_with r a i T g) 3) = p_to r a n (k + 1) g := by
  have l := s_arg_le (p_with r a i (p_to r a n k) g) 3
  show _ = p_with r a (n - (k + 1)) (p_to r a n k) g (s_arg (p_with r a (n - (k + 1)) (p_to r a n k) g) 3)
  rw [show n - (k + 1) = i by omega, p_arg_T hs (show i < n by omega) hg h]
  exact p_with_T hs (by omega) hg (by omega) h
