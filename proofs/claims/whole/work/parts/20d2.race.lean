/-! more of a race told -/
theorem d_N_0 {L : Nat → Int32} {s : Nat} (c : L s = 115) : d_N L s 0 = c_kind (L (s + 1)) := if_pos ⟨c, rfl⟩
theorem d_N_k {L : Nat → Int32} {s k : Nat} (h : k ≠ 0) : d_N L s k = nI (dn L (s + 1 + k)) := if_neg fun q => h q.2
theorem d_N_n {L : Nat → Int32} {s k : Nat} (c : ¬ L s = 115) : d_N L s k = nI (dn L (s + 1 + k)) := if_neg fun q => c q.1
theorem d_at_115 {L : Nat → Int32} {s e : Nat} {r : Nat → Int32} {n na : Nat} (c : L s = 115) {x : Nat} (hx : 2 ≤ x) : d_row L s e r n na x = if x = 2 + 3 * n + 2 then nI (dn L (s + 3)) else if x = 2 + 3 * n + 1 then nI (dn L (s + 2)) else if x = 2 + 3 * n then c_kind (L (s + 1)) else r x := by
  rw [d_row_115 c, pk_un (by omega), s3_at, d_N_0 c, d_N_k (by decide), d_N_k (by decide)]
theorem d_at_97 {L : Nat → Int32} {s e : Nat} {r : Nat → Int32} {n na : Nat} (c1 : ¬ L s = 115) (c : L s = 97) {x : Nat} (hx : 2 ≤ x) : d_row L s e r n na x = if 52 + 10 * na ≤ x ∧ x < 52 + 10 * na + 10 then 1 else if x = 35 + 4 * na then nI (10 * dn L (s + 4) + dn L (s + 5)) else if x = 32 + 4 * na + 2 then nI (dn L (s + 3)) else if x = 32 + 4 * na + 1 then nI (dn L (s + 2)) else if x = 32 + 4 * na then nI (dn L (s + 1)) else r x := by
  rw [d_row_97 c1 c, pk_un (by omega), o_row_at]
  by_cases h : 52 + 10 * na ≤ x ∧ x < 52 + 10 * na + 10
  · rw [if_pos h, if_pos h]
  · rw [if_neg h, if_neg h]
    by_cases h2 : x = 35 + 4 * na
    · subst h2
      rw [pk_us, if_pos rfl]
    · rw [pk_un h2, if_neg h2, s3_at, d_N_n c1, d_N_n c1, d_N_n c1]
theorem ft_res1 {L : Nat → Int32} {K : Nat} {r : Nat → Int32} {n na : Nat} {v : Int32} (h : ft_ok L K n na v) (hv : ¬ v = 0) : r_res L K r n na v r n na := by
  rcases h with ⟨a1, a2⟩ | ⟨a1, k, a2, a3⟩
  · exact Or.inl ⟨a1, a2, rfl, rfl, rfl⟩
  · rcases a3 with ⟨b1, b2, b3⟩ | ⟨b1, b2⟩
    · exact Or.inr ⟨a1, k, a2, Or.inl ⟨b1, b2, b3, rfl, rfl, rfl⟩⟩
    · exact absurd b2 hv
theorem ft_0 {L : Nat → Int32} {K : Nat} {n na : Nat} {v : Int32} (h : ft_ok L K n na v) (hv : v = 0) (hK : K ≤ 96) : c_f1 L K = -9 ∧ ∃ k, (∀ j, j < k → r_pos L K j < K ∧ r_ok L K n na j = true) ∧ K ≤ r_pos L K k := by
  rcases h with ⟨a1, a2⟩ | ⟨a1, k, a2, a3⟩
  · obtain ⟨p, p1, p2⟩ := c_f1_v a1
    rw [p2, hv] at a2
    exact absurd a2.symm (z_m1000 (c := 1000) (by omega) (by decide))
  · rcases a3 with ⟨b1, b2, b3⟩ | ⟨b1, b2⟩
    · rw [hv] at b3
      exact absurd b3.symm (z_m1000 (c := 2000) (by omega) (by decide))
    · exact ⟨a1, k, a2, b1⟩
theorem k_same {L : Nat → Int32} {K k k0 : Nat} {P : Nat → Prop} (h1 : ∀ j, j < k → r_pos L K j < K) (h2 : K ≤ r_pos L K k) (h3 : ∀ j, j < k0 → r_pos L K j < K ∧ P j) (h4 : K ≤ r_pos L K k0) : k = k0 := by
  rcases Nat.lt_trichotomy k k0 with q | q | q
  · have := (h3 k q).1
    omega
  · exact q
  · have := h1 k0 q
    omega
theorem k_less {L : Nat → Int32} {K k k0 : Nat} (h1 : ∀ j, j < k → r_pos L K j < K) (h2 : r_pos L K k < K) (h4 : K ≤ r_pos L K k0) : k < k0 := by
  rcases Nat.lt_trichotomy k k0 with q | q | q
  · exact q
  · subst q; omega
  · have := h1 k0 q
    omega
/-- a change of the text: (the answer, which refusal, how many then, the letters then) -/
def R_letter (k : Nat) (w : Nat → Int32) (v : Int32) : Int32 × Nat × Nat × (Nat → Int32) :=
  if v < 0 then (-4, 4, k, w) else if 255 < v ∨ 96 ≤ k then (-6, 6, k, w) else (nI (k + 1), 0, k + 1, upd w k v)
def zTc (A : Int32 × Nat × Nat × (Nat → Int32)) (G : zG) (r : Int32) (G1 : zG) : Prop := A.1 = r ∧ (∀ k, (k < 43 ∨ (44 < k ∧ k < 47) ∨ 91 < k) → G1 k = G k) ∧ G1 43 0 = nI A.2.2.1 ∧ G1 44 = A.2.2.2 ∧ G1 47 = zrf (G 47) A.2.1 ∧ zPl G1
def zTm (A : Int32 × Nat × Nat × (Nat → Int32)) (G : zG) (r : Int32) (G1 : zG) : Prop := A.1 = r ∧ (∀ k, (k < 92 ∨ k = 93 ∨ k = 95 ∨ k = 98) → G1 k = G k) ∧ (∀ x, x ≠ 8 → G1 92 x = G 92 x) ∧ G1 92 8 = nI A.2.2.1 ∧ G1 97 = A.2.2.2 ∧ G1 99 = zrf (G 99) A.2.1
theorem zTc_of {A : Int32 × Nat × Nat × (Nat → Int32)} {G G1 : zG} {v : Int32} {k m : Nat} {w : Nat → Int32} (hA : A = (v, k, m, w)) (hF : ∀ k, (k < 43 ∨ (44 < k ∧ k < 47) ∨ 91 < k) → G1 k = G k) (h5 : G1 43 0 = nI m) (h6 : G1 44 = w) (hk : G1 47 = zrf (G 47) k) (hp : zPl G1) : zTc A G v G1 := by
  subst hA
  exact ⟨rfl, hF, h5, h6, hk, hp⟩
theorem zTm_of {A : Int32 × Nat × Nat × (Nat → Int32)} {G G1 : zG} {v : Int32} {k m : Nat} {w : Nat → Int32} (hA : A = (v, k, m, w)) (hF : ∀ k, (k < 92 ∨ k = 93 ∨ k = 95 ∨ k = 98) → G1 k = G k) (h2 : ∀ x, x ≠ 8 → G1 92 x = G 92 x) (h5 : G1 92 8 = nI m) (h6 : G1 97 = w) (hk : G1 99 = zrf (G 99) k) : zTm A G v G1 := by
  subst hA
  exact ⟨rfl, hF, h2, h5, h6, hk⟩
