/-! the class's planner -/
/-- the planner has looked at athlete a of r -/
def zPn (G : zG) (r : Nat → Int32) (a n : Nat) : Prop := G 70 0 = nI n ∧ G 70 1 = nI (q_g r a) ∧ ∀ j, j < n → G 71 j = r (2 + 3 * j) ∧ G 72 j = r (4 + 3 * j) ∧ G 73 j = m_plain r a j
theorem zPn_fr {G G1 : zG} {r : Nat → Int32} {a n : Nat} (h : zPn G r a n) (hF : ∀ k, (k < 75 ∨ 85 < k) → G1 k = G k) : zPn G1 r a n := by
  unfold zPn
  rw [hF 70 (by omega), hF 71 (by omega), hF 72 (by omega), hF 73 (by omega)]
  exact h
theorem m_leg_k {r : Nat → Int32} {n i : Nat} {x t g : Int32} (hs : zVs r n) (hi : i < n) : m_leg (r (2 + 3 * i)) x t g = s_leg (r (2 + 3 * i)) x t g := by
  obtain ⟨k, _, _, hk, _, _, _, e, _⟩ := hs i hi
  rw [e, m_leg_s hk]
theorem s_arg_c {f g : Nat → Int32} : ∀ {k : Nat}, (∀ v, v ≤ k → f v = g v) → s_arg f k = s_arg g k
  | 0, _ => rfl
  | k + 1, h => by
    have l := s_arg_le g k
    show (if f (k + 1) < f (s_arg f k) then k + 1 else s_arg f k) = (if g (k + 1) < g (s_arg g k) then k + 1 else s_arg g k)
    rw [s_arg_c (k := k) (fun v hv => h v (by omega)), h (k + 1) (Nat.le_refl _), h (s_arg g k) (by omega)]
theorem p_with_T {r : Nat → Int32} {n a i g v : Nat} {T U : Nat → Int32} (hs : zVs r n) (hi : i < n) (hg : g < 100) (hv : v < 4) (h : ∀ x, x < 100 → T x = U x) : p_with r a i T g v = p_with r a i U g v := by
  unfold p_with
  rw [h _ (p_leg_e hs hi hg hv).2]
theorem p_arg_T {r : Nat → Int32} {n a i g : Nat} {T U : Nat → Int32} (hs : zVs r n) (hi : i < n) (hg : g < 100) (h : ∀ x, x < 100 → T x = U x) : s_arg (p_with r a i T g) 3 = s_arg (p_with r a i U g) 3 := s_arg_c fun v hv => p_with_T hs hi hg (by omega) h
theorem p_to_T {r : Nat → Int32} {n a i k g : Nat} {T : Nat → Int32} (hs : zVs r n) (hi : i + k + 1 = n) (hg : g < 100) (h : ∀ x, x < 100 → T x = p_to r a n k x) : p_with r a i T g (s_arg (p_with r a i T g) 3) = p_to r a n (k + 1) g := by
  have l := s_arg_le (p_with r a i (p_to r a n k) g) 3
  show _ = p_with r a (n - (k + 1)) (p_to r a n k) g (s_arg (p_with r a (n - (k + 1)) (p_to r a n k) g) 3)
  rw [show n - (k + 1) = i by omega, p_arg_T hs (show i < n by omega) hg h]
  exact p_with_T hs (by omega) hg (by omega) h
theorem zFA_plain {G : zG} {r : Nat → Int32} {n na a w : Nat} (hR : zFA G 1 r n na) (hw : w = 1 + 5 + 1 + 3 * a) (ha : a < na) (hn : n ≤ 10) : ∀ i, i < n → s_plain (G 3) (G 4) (G 5) (G (w + 1)) i = m_plain r a i := fun i hi => by
    rw [m_plain_s]
    have hc := hR.2.2.1 i (by omega)
    have hc1 := hR.2.2.1 (i - 1) (by omega)
    have a0 := z_ab hR hw ha (show 0 < 4 by decide)
    have a1 := z_ab hR hw ha (show 1 < 4 by decide)
    have a2 := z_ab hR hw ha (show 2 < 4 by decide)
    have c1 : G 3 i = r (2 + 3 * i) := hc.1
    have c2 : G 4 i = r (3 + 3 * i) := hc.2.1
    have c3 : G 5 i = r (4 + 3 * i) := hc.2.2
    have c4 : G 3 (i - 1) = r (2 + 3 * (i - 1)) := hc1.1
    unfold s_plain
    simp only [c1, c2, c3, c4, a0, a1, a2]
theorem zPn_look {G G1 : zG} {r : Nat → Int32} {n na a w : Nat} (hR : zFA G 1 r n na) (hw : w = 1 + 5 + 1 + 3 * a) (ha : a < na) (hn : n ≤ 10) (hV : zVr r n na) (hm : G1 70 0 = nI n) (h1 : G1 70 1 = G (w + 1) 3) (hrow : ∀ j, j < n → G1 71 j = G 3 j ∧ G1 72 j = G 5 j ∧ G1 73 j = s_plain (G 3) (G 4) (G 5) (G (w + 1)) j) : zPn G1 r a n := by
  refine ⟨hm, ?_, fun j hj => ⟨?_, ?_, ?_⟩⟩
  · rw [h1, z_ab hR hw ha (by decide), show 32 + 4 * a + 3 = 35 + 4 * a by omega]; exact (q_g_e (hV.2 a ha)).1
  · rw [(hrow j hj).1]; exact (hR.2.2.1 j (by omega)).1
  · rw [(hrow j hj).2.1]; exact (hR.2.2.1 j (by omega)).2.2
  · rw [(hrow j hj).2.2]; exact zFA_plain hR hw ha hn j hj
theorem zPl_67 {G G1 : zG} (h6 : G1 70 6 = G 70 6) (h7 : G1 70 7 = G 70 7) (hp : zPl G) : zPl G1 := by
  unfold zPl at hp ⊢
  rw [h6, h7]
  exact hp
