/-! best plans: SECONDS from a SECTION on, by LEGS -/
theorem z_subn {s t : Nat} (hs : s < t) (ht : t ≤ 4000) : nI s - nI t < 0 := by
  rw [Int32.lt_iff_toInt_lt, Int32.toInt_sub, nI_toInt (by omega), nI_toInt (by omega), Int.bmod_eq_of_le (by omega) (by omega), show (0 : Int32).toInt = 0 from by decide]
  omega
theorem m_takes_b {k : Nat} (h : k < 7) : ∃ w : Nat, w ≤ 3 ∧ m_takes (nI k) = nI w := by
  rcases (show k = 0 ∨ k = 1 ∨ k = 2 ∨ k = 3 ∨ k = 4 ∨ k = 5 ∨ k = 6 by omega) with rfl | rfl | rfl | rfl | rfl | rfl | rfl
  · exact ⟨1, by decide, by decide⟩
  · exact ⟨1, by decide, by decide⟩
  · exact ⟨2, by decide, by decide⟩
  · exact ⟨3, by decide, by decide⟩
  · exact ⟨2, by decide, by decide⟩
  · exact ⟨2, by decide, by decide⟩
  · exact ⟨0, by decide, by decide⟩
theorem leg_b {r : Nat → Int32} {n i g v : Nat} (hs : zVs r n) (hi : i < n) (hg : g < 100) (hv : v < 4) : ∃ x : Nat, x < 100 ∧ m_leg (r (2 + 3 * i)) (r (4 + 3 * i)) (nI v) (nI g) = nI x := by
  obtain ⟨k, f, l, hk, hf, hl1, hl, e1, e2, e3⟩ := hs i hi
  obtain ⟨w, hw, e4⟩ := m_takes_b hk
  have m1 : v * w ≤ 3 * 3 := Nat.mul_le_mul (by omega) hw
  have m2 : v * w * l ≤ 9 * 9 := Nat.mul_le_mul m1 hl
  have hL : ∃ x : Nat, x < 100 ∧ m_left (nI k) (nI l) (nI v) (nI g) = nI x := by
    unfold m_left
    rw [e4, pk_mul, pk_mul]
    by_cases c : 0 < nI g
    · rw [if_pos c]
      unfold s_max
      rcases Nat.lt_or_ge g (v * w * l) with q | q
      · have z := z_subn q (by omega)
        rw [if_pos z]
        exact ⟨0, by decide, rfl⟩
      · rw [pk_sub q]
        have z : ¬ nI (g - v * w * l) < 0 := nI_pos (by omega)
        rw [if_neg z]
        exact ⟨_, by omega, rfl⟩
    · rw [if_neg c]
      exact ⟨0, by decide, rfl⟩
  obtain ⟨x, hx, e5⟩ := hL
  rw [e1, e3]
  unfold m_leg
  by_cases c : nI k = 6
  · rw [if_pos c, e5, show (5 : Int32) = nI 5 from rfl, nI_add]
    unfold s_min
    by_cases c2 : (99 : Int32) < nI (x + 5)
    · rw [if_pos c2]
      exact ⟨99, by decide, rfl⟩
    · rw [if_neg c2]
      refine ⟨x + 5, ?_, rfl⟩
      rcases Nat.lt_or_ge (x + 5) 100 with q | q
      · exact q
      · exact absurd (show (99 : Int32) < nI (x + 5) from nI_lt (a := 99) (by omega) (by omega)) c2
  · rw [if_neg c, e5]
    exact ⟨x, hx, rfl⟩
/-- LEGS behind SECTION i, from g by v -/
def p_leg (r : Nat → Int32) (i g v : Nat) : Nat := (m_leg (r (2 + 3 * i)) (r (4 + 3 * i)) (nI v) (nI g)).toNatClampNeg
theorem p_leg_e {r : Nat → Int32} {n i g v : Nat} (hs : zVs r n) (hi : i < n) (hg : g < 100) (hv : v < 4) : m_leg (r (2 + 3 * i)) (r (4 + 3 * i)) (nI v) (nI g) = nI (p_leg r i g v) ∧ p_leg r i g v < 100 := by
  obtain ⟨x, hx, e⟩ := leg_b hs hi hg hv
  unfold p_leg
  rw [e, nI_clamp (by omega)]
  exact ⟨rfl, hx⟩
/-- SECONDS of SECTION i by v at g, and T behind it -/
def p_with (r : Nat → Int32) (a i : Nat) (T : Nat → Int32) (g v : Nat) : Int32 := s_sec (m_plain r a i) (nI v) (nI g) + T (p_leg r i g v)
/-- the least SECONDS of the last k SECTIONS, at LEGS g -/
def p_to (r : Nat → Int32) (a n : Nat) : Nat → Nat → Int32
  | 0, _ => 0
  | k + 1, g => p_with r a (n - (k + 1)) (p_to r a n k) g (s_arg (p_with r a (n - (k + 1)) (p_to r a n k) g) 3)
theorem p_with_b {r : Nat → Int32} {n a i g v m : Nat} {T : Nat → Int32} (hs : zVs r n) (ha : zVa r a) (hi : i < n) (hg : g < 100) (hv : v < 4) (hT : ∀ x, x < 100 → ∃ s : Nat, s ≤ m ∧ T x = nI s) : ∃ s : Nat, s ≤ m + 400 ∧ p_with r a i T g v = nI s := by
  obtain ⟨p, h3, h4⟩ := plain_b hs ha hi
  obtain ⟨u, h7, h8⟩ := sec_b (g := nI g) h3 (show v ≤ 3 by omega)
  obtain ⟨s, h1, h2⟩ := hT _ (p_leg_e hs hi hg hv).2
  refine ⟨u + s, by omega, ?_⟩
  unfold p_with
  rw [h4, h8, h2, nI_add]
theorem p_to_b {r : Nat → Int32} {n a : Nat} (hs : zVs r n) (ha : zVa r a) : ∀ k, k ≤ n → ∀ g, g < 100 → ∃ s : Nat, s ≤ 400 * k ∧ p_to r a n k g = nI s
  | 0, _, g, _ => ⟨0, by decide, rfl⟩
  | k + 1, hk, g, hg => by
    have ih := p_to_b hs ha k (by omega)
    have l3 := s_arg_le (p_with r a (n - (k + 1)) (p_to r a n k) g) 3
    obtain ⟨s, h1, h2⟩ := p_with_b (v := s_arg (p_with r a (n - (k + 1)) (p_to r a n k) g) 3) hs ha (show n - (k + 1) < n by omega) hg (by omega) ih
    exact ⟨s, by omega, h2⟩
/-- the least of f 0 .. f (k - 1), below 1000000000 -/
def f_min (f : Nat → Int32) : Nat → Int32
  | 0 => 1000000000
  | k + 1 => s_min (f_min f k) (f k)
theorem f_min_arg {f : Nat → Int32} : ∀ {k : Nat}, (∀ v, v ≤ k → ∃ s : Nat, s ≤ 4400 ∧ f v = nI s) → f_min f (k + 1) = f (s_arg f k)
  | 0, h => by
    show s_min 1000000000 (f 0) = f 0
    obtain ⟨s, h1, h2⟩ := h 0 (Nat.le_refl 0)
    unfold s_min
    rw [h2, if_neg (fun q => absurd (Int32.lt_trans q (Int32.lt_of_le_of_lt (nI_le h1 (by decide)) (show nI 4400 < (1000000000 : Int32) by decide))) (Int32.lt_irrefl))]
  | k + 1, h => by
    show s_min (f_min f (k + 1)) (f (k + 1)) = f (if f (k + 1) < f (s_arg f k) then k + 1 else s_arg f k)
    rw [f_min_arg (k := k) (fun v hv => h v (by omega))]
    unfold s_min
    by_cases c : f (k + 1) < f (s_arg f k)
    · rw [if_pos c, if_neg (fun q => Int32.lt_irrefl (Int32.lt_trans c q))]
    · rw [if_neg c]
      by_cases c2 : f (s_arg f k) < f (k + 1)
      · rw [if_pos c2]
      · rw [if_neg c2]
        exact Int32.le_antisymm (Int32.not_lt.mp c2) (Int32.not_lt.mp c)
theorem z_down {n k : Nat} {x : Int32} (hk : k ≤ n) (hn : n ≤ 10) (hx : x = nI (n - k) - 1) (h : ¬ x < 0) : ∃ i : Nat, (i < n ∧ i + k + 1 = n) ∧ x = nI i := by
  rcases Nat.eq_zero_or_pos (n - k) with e | e
  · rw [e] at hx
    subst hx
    exact absurd (show nI 0 - 1 < 0 by decide) h
  · obtain ⟨m, hm⟩ : ∃ m : Nat, n - k = m + 1 := ⟨n - k - 1, by omega⟩
    rw [hm, nI_pred] at hx
    exact ⟨m, ⟨by omega, by omega⟩, hx⟩
theorem z_down0 {n k : Nat} {x : Int32} (hk : k ≤ n) (hn : n ≤ 10) (hx : x = nI (n - k) - 1) (h : x < 0) : k = n := by
  rcases Nat.lt_or_ge k n with e | e
  · obtain ⟨m, hm⟩ : ∃ m : Nat, n - k = m + 1 := ⟨n - k - 1, by omega⟩
    rw [hm, nI_pred] at hx
    subst hx
    exact absurd h (nI_pos (by omega))
  · omega
theorem z_dn (x : Int32) : x + Int32.ofInt (-1) = x - 1 := by rw [Int32.sub_eq_add_neg]; rfl
theorem p_to_st {r : Nat → Int32} {n a i k g : Nat} (hs : zVs r n) (ha : zVa r a) (hn : n ≤ 10) (hi : i + k + 1 = n) (hg : g < 100) : f_min (p_with r a i (p_to r a n k) g) 4 = p_to r a n (k + 1) g := by
  have hb : ∀ v, v ≤ 3 → ∃ s : Nat, s ≤ 4400 ∧ p_with r a i (p_to r a n k) g v = nI s := fun v hv => by
    obtain ⟨s, h1, h2⟩ := p_with_b (v := v) hs ha (show i < n by omega) hg (by omega) (p_to_b hs ha k (by omega))
    exact ⟨s, by omega, h2⟩
  show _ = p_with r a (n - (k + 1)) (p_to r a n k) g (s_arg (p_with r a (n - (k + 1)) (p_to r a n k) g) 3)
  rw [show n - (k + 1) = i by omega]
  exact f_min_arg (k := 3) hb
theorem p_with_f {r f : Nat → Int32} {n a i k g v : Nat} (hs : zVs r n) (hi : i + k + 1 = n) (hg : g < 100) (hv : v < 4) (hf : ∀ j, n - k ≤ j → j ≤ n → ∀ x, x < 100 → f (j * 100 + x) = p_to r a n (n - j) x) : p_with r a i (p_to r a n k) g v = s_sec (m_plain r a i) (nI v) (nI g) + f ((i + 1) * 100 + p_leg r i g v) := by
  unfold p_with
  rw [hf (i + 1) (by omega) (by omega) _ (p_leg_e hs (by omega) hg hv).2, show n - (i + 1) = k by omega]
/-- LEGS at the start -/
def q_g (r : Nat → Int32) (a : Nat) : Nat := (r (35 + 4 * a)).toNatClampNeg
theorem q_g_e {r : Nat → Int32} {a : Nat} (h : zVa r a) : r (35 + 4 * a) = nI (q_g r a) ∧ q_g r a < 100 := by
  obtain ⟨g, h1, h2⟩ := h.2.1
  unfold q_g
  rw [h2, nI_clamp (by omega)]
  exact ⟨rfl, by omega⟩
/-- LEGS before SECTION i by the best plan -/
def p_lg (r : Nat → Int32) (a n : Nat) : Nat → Nat
  | 0 => q_g r a
  | i + 1 => p_leg r i (p_lg r a n i) (s_arg (p_with r a i (p_to r a n (n - (i + 1))) (p_lg r a n i)) 3)
/-- TRIES of it -/
def p_bt (r : Nat → Int32) (a n i : Nat) : Nat := s_arg (p_with r a i (p_to r a n (n - (i + 1))) (p_lg r a n i)) 3
theorem p_lg_b {r : Nat → Int32} {n a : Nat} (hs : zVs r n) (ha : zVa r a) : ∀ i, i ≤ n → p_lg r a n i < 100
  | 0, _ => (q_g_e ha).2
  | i + 1, h => by
    have l3 := s_arg_le (p_with r a i (p_to r a n (n - (i + 1))) (p_lg r a n i)) 3
    exact (p_leg_e hs (show i < n by omega) (p_lg_b hs ha i (by omega)) (by omega)).2
theorem s_arg_first {f : Nat → Int32} : ∀ {k v : Nat}, v < s_arg f k → f (s_arg f k) < f v
  | 0, _, h => absurd h (Nat.not_lt_zero _)
  | k + 1, v, h => by
    have e : s_arg f (k + 1) = if f (k + 1) < f (s_arg f k) then k + 1 else s_arg f k := rfl
    rw [e] at h ⊢
    by_cases c : f (k + 1) < f (s_arg f k)
    · rw [if_pos c] at h ⊢
      rcases Nat.lt_or_ge v (s_arg f k) with q | q
      · exact Int32.lt_trans c (s_arg_first q)
      · by_cases c2 : f (k + 1) < f v
        · exact c2
        · exfalso
          exact s_arg_no c c2 h q
    · rw [if_neg c] at h ⊢
      exact s_arg_first h
where
  s_arg_min {f : Nat → Int32} : ∀ {k v : Nat}, v ≤ k → ¬ f v < f (s_arg f k)
    | 0, v, h => by rw [show v = 0 by omega]; exact Int32.lt_irrefl
    | k + 1, v, h => by
      have e : s_arg f (k + 1) = if f (k + 1) < f (s_arg f k) then k + 1 else s_arg f k := rfl
      rw [e]
      by_cases c : f (k + 1) < f (s_arg f k)
      · rw [if_pos c]
        rcases Nat.lt_or_ge v (k + 1) with q | q
        · exact fun z => s_arg_min (show v ≤ k by omega) (Int32.lt_trans z c)
        · rw [show v = k + 1 by omega]; exact Int32.lt_irrefl
      · rw [if_neg c]
        rcases Nat.lt_or_ge v (k + 1) with q | q
        · exact s_arg_min (show v ≤ k by omega)
        · rw [show v = k + 1 by omega]; exact c
  s_arg_no {f : Nat → Int32} {k v : Nat} (c : f (k + 1) < f (s_arg f k)) (c2 : ¬ f (k + 1) < f v) (h : v < k + 1) (_q : s_arg f k ≤ v) : False :=
    s_arg_min (show v ≤ k by omega) (Int32.lt_of_le_of_lt (Int32.not_lt.mp c2) c)
theorem p_to_arg {r : Nat → Int32} {n a i : Nat} {g : Nat} (hi : i < n) : p_to r a n (n - i) g = p_with r a i (p_to r a n (n - (i + 1))) g (s_arg (p_with r a i (p_to r a n (n - (i + 1))) g) 3) := by
  obtain ⟨k, hk⟩ : ∃ k : Nat, n - i = k + 1 := ⟨n - i - 1, by omega⟩
  rw [hk, show n - (i + 1) = k by omega]
  show p_with r a (n - (k + 1)) _ g (s_arg (p_with r a (n - (k + 1)) _ g) 3) = _
  rw [show n - (k + 1) = i by omega]
def A_plan (r : Nat → Int32) (n na : Nat) (a w : Int32) : Int32 × Nat :=
  if zin a na = false ∨ (¬ w = -1 ∧ zin w n = false) then (-1, 1) else if w = -1 then (p_to r (zix a) n n (q_g r (zix a)), 0) else (nI (p_bt r (zix a) n (zix w)), 0)
theorem plan_hit {f : Nat → Int32} {t : Nat} (h : t ≤ s_arg f 3) (h2 : ¬ f (s_arg f 3) < f t) : t = s_arg f 3 := by
  rcases Nat.lt_or_ge t (s_arg f 3) with q | q
  · exact absurd (s_arg_first q) h2
  · omega
