/-! WHAT THE RACE ANSWERS, as functions of rows -/
/-- 1, 0: a RIDE, a HILL, WIND -/
def s_isRide (k : Int32) : Int32 := if k = 2 ∨ k = 3 ∨ k = 4 then 1 else 0
def s_takes (k : Int32) : Int32 := if k = 0 ∨ k = 1 then 1 else if k = 2 ∨ k = 4 ∨ k = 5 then 2 else if k = 3 then 3 else 0
/-- SECONDS by TRIES t at LEGS g, u without -/
def s_sec (u t g : Int32) : Int32 := if 0 < g then u - u * t / 10 else u + u / 4
/-- Math.min, Math.max -/
def s_mn (x y : Int32) : Int32 := if y < x then y else x
def s_mx (x y : Int32) : Int32 := if x < y then y else x
def s_left (k n t g : Int32) : Int32 := if 0 < g then s_mx 0 (g - s_takes k * n * t) else 0
def s_leg (k n t g : Int32) : Int32 := if k = 6 then s_mn 99 (s_left k n t g + 5) else s_left k n t g
/-- SECONDS of section i with TRIES 0 -/
def s_plain (kd fg ln ab : Nat → Int32) (i : Nat) : Int32 :=
  if kd i = 0 then ln i * (20 - ab 0)
  else if kd i = 1 then ln i * (20 - ab 0 - fg i)
  else if kd i = 2 then ln i * (20 - ab 1)
  else if kd i = 3 then ln i * (20 - ab 1 + fg i)
  else if kd i = 4 then ln i * (20 - ab 1 + fg i / 2)
  else if kd i = 5 then ln i * (22 - ab 2) + (if 0 < i ∧ s_isRide (kd (i - 1)) = 1 then ln i + fg i else 0)
  else 10 + 5 * fg i
/-- LEGS and all SECONDS behind the first i sections (d: the section behind which 20 LEGS come) -/
def s_run (kd fg ln ab tr : Nat → Int32) (d : Int32) : Nat → Int32 × Int32
  | 0 => (ab 3, 0)
  | i + 1 =>
    let p := s_run kd fg ln ab tr d i
    let g := s_leg (kd i) (ln i) (tr i) p.1
    (if nI i = d then s_mn 99 (g + 20) else g, p.2 + s_sec (s_plain kd fg ln ab i) (tr i) p.1)
/-- SECONDS of section i -/
def s_sc (kd fg ln ab tr : Nat → Int32) (d : Int32) (i : Nat) : Int32 := s_sec (s_plain kd fg ln ab i) (tr i) (s_run kd fg ln ab tr d i).1
theorem s_plain_c {a b c d a2 b2 c2 d2 : Nat → Int32} {i : Nat} (h1 : a = a2) (h2 : b = b2) (h3 : c = c2) (h4 : d = d2) : s_plain a b c d i = s_plain a2 b2 c2 d2 i := by rw [h1, h2, h3, h4]
/-- a trial's own run -/
def zt_run (G : zG) (t i : Nat) : Int32 × Int32 := s_run (G (t + 2)) (G (t + 3)) (G (t + 4)) (G (t + 6)) (G (t + 7)) (G t 2) i
def zt_sc (G : zG) (t i : Nat) : Int32 := s_sc (G (t + 2)) (G (t + 3)) (G (t + 4)) (G (t + 6)) (G (t + 7)) (G t 2) i
theorem g1_e (G : zG) (k : Nat) : g1 G k (G k) = G := by
  funext j
  unfold g1
  split
  · rename_i h
    rw [h]
  · rfl
theorem z_has1 {i : Int32} {n : Nat} (hn : n < 2 ^ 31) (h1 : ¬ i < 0) (h2 : ¬ nI n ≤ i) : ∃ j : Nat, j < n ∧ i = nI j := by
  rcases pk_ix i hn with h | h | h
  · exact absurd h h1
  · exact absurd h h2
  · exact h
theorem z_has0 {i : Int32} {n : Nat} (hn : n < 2 ^ 31) (h : i < 0 ∨ nI n ≤ i) : ¬ ∃ j : Nat, j < n ∧ i = nI j := by
  rintro ⟨j, hj, rfl⟩
  rcases h with h | h
  · exact nI_pos (by omega) h
  · exact nI_ge hj hn h
/-! the same by the reference's words -/
def s_min (a b : Int32) : Int32 := if a < b then a else b
def s_max (a b : Int32) : Int32 := if b < a then a else b
def m_takes (k : Int32) : Int32 := if k = 6 then 0 else if k < 2 then 1 else if k = 3 then 3 else 2
def m_plain (r : Nat → Int32) (a i : Nat) : Int32 :=
  if r (2 + 3 * i) = 0 then r (4 + 3 * i) * (20 - r (32 + 4 * a))
  else if r (2 + 3 * i) = 1 then r (4 + 3 * i) * (20 - r (32 + 4 * a)) - r (4 + 3 * i) * r (3 + 3 * i)
  else if r (2 + 3 * i) = 2 then r (4 + 3 * i) * (20 - r (33 + 4 * a))
  else if r (2 + 3 * i) = 3 then r (4 + 3 * i) * (20 - r (33 + 4 * a)) + r (4 + 3 * i) * r (3 + 3 * i)
  else if r (2 + 3 * i) = 4 then r (4 + 3 * i) * (20 - r (33 + 4 * a)) + r (4 + 3 * i) * (r (3 + 3 * i) / 2)
  else if r (2 + 3 * i) = 5 then r (4 + 3 * i) * (22 - r (34 + 4 * a)) + (if 0 < i ∧ s_isRide (r (2 + 3 * (i - 1))) = 1 then r (4 + 3 * i) + r (3 + 3 * i) else 0)
  else 10 + 5 * r (3 + 3 * i)
def m_left (k n t g : Int32) : Int32 := if 0 < g then s_max 0 (g - t * m_takes k * n) else 0
def m_leg (k n t g : Int32) : Int32 := if k = 6 then s_min 99 (m_left k n t g + 5) else m_left k n t g
def m_run (r : Nat → Int32) (a : Nat) (d : Int32) : Nat → Int32 × Int32
  | 0 => (r (35 + 4 * a), 0)
  | i + 1 =>
    let p := m_run r a d i
    let g := m_leg (r (2 + 3 * i)) (r (4 + 3 * i)) (r (52 + 10 * a + i)) p.1
    (if nI i = d then s_min 99 (g + 20) else g, p.2 + s_sec (m_plain r a i) (r (52 + 10 * a + i)) p.1)
def m_sc (r : Nat → Int32) (a : Nat) (d : Int32) (i : Nat) : Int32 := s_sec (m_plain r a i) (r (52 + 10 * a + i)) (m_run r a d i).1
theorem z_sec1 {i : Int32} {n : Nat} (hn : n < 2 ^ 31) (h1 : 0 ≤ i) (h2 : i ≤ nI n - 1) : ∃ j : Nat, j < n ∧ i = nI j := by
  rcases pk_ix i hn with h | h | h
  · exact absurd h (Int32.not_lt.mpr h1)
  · exfalso
    rcases Nat.eq_zero_or_pos n with e | e
    · subst e
      have h0 : nI 0 - 1 = -1 := by decide
      rw [h0] at h2
      exact absurd (Int32.le_trans h1 h2) (by decide)
    · rw [show nI n - 1 = nI (n - 1) from by rw [show (1 : Int32) = nI 1 from rfl, pk_sub e]] at h2
      exact nI_ge (show n - 1 < n by omega) hn (Int32.le_trans h h2)
  · exact h
theorem z_sec0 {i : Int32} {n : Nat} (hn : n < 2 ^ 31) (h : ¬ (0 ≤ i ∧ i ≤ nI n - 1)) : ¬ ∃ j : Nat, j < n ∧ i = nI j := by
  rintro ⟨j, hj, rfl⟩
  refine h ⟨nI_pos' (by omega), ?_⟩
  rw [show nI n - 1 = nI (n - 1) from by rw [show (1 : Int32) = nI 1 from rfl, pk_sub (by omega)]]
  exact nI_le (by omega) (by omega)
theorem z_secN1 {i n : Nat} (hi : i < 2 ^ 31) (hn : n < 2 ^ 31) (h1 : 0 ≤ nI i) (h2 : nI i ≤ nI n - 1) : i < n := by
  obtain ⟨j, hj, e⟩ := z_sec1 hn h1 h2
  have := (nI_eq hi (by omega)).mp e
  omega
theorem z_secN0 {i n : Nat} (hi : i < 2 ^ 31) (hn : n < 2 ^ 31) (h : ¬ (0 ≤ nI i ∧ nI i ≤ nI n - 1)) : n ≤ i := by
  rcases Nat.lt_or_ge i n with q | q
  · exact absurd ⟨i, q, rfl⟩ (z_sec0 hn h)
  · exact q
theorem z_three {v : Int32} (h1 : 2 ≤ v) (h2 : v ≤ 4) : v = 2 ∨ v = 3 ∨ v = 4 := by
  have a := Int32.le_iff_toInt_le.mp h1
  have b := Int32.le_iff_toInt_le.mp h2
  have a2 : (2 : Int32).toInt = 2 := by decide
  have b2 : (4 : Int32).toInt = 4 := by decide
  have e2 : (3 : Int32).toInt = 3 := by decide
  rcases (show v.toInt = 2 ∨ v.toInt = 3 ∨ v.toInt = 4 by omega) with h | h | h
  · exact Or.inl (Int32.toInt_inj.mp (h.trans a2.symm))
  · exact Or.inr (Or.inl (Int32.toInt_inj.mp (h.trans e2.symm)))
  · exact Or.inr (Or.inr (Int32.toInt_inj.mp (h.trans b2.symm)))
theorem z_ride1 {v : Int32} (h1 : 2 ≤ v) (h2 : v ≤ 4) : s_isRide v = 1 := if_pos (z_three h1 h2)
theorem z_ride0 {v : Int32} (h : ¬ (2 ≤ v ∧ v ≤ 4)) : s_isRide v = 0 := if_neg (fun q => h (by rcases q with rfl | rfl | rfl <;> decide))
theorem z_nin {v lo hi : Int32} (h : ¬ (lo ≤ v ∧ v ≤ hi)) : v < lo ∨ hi < v := by
  by_cases q : v < lo
  · exact Or.inl q
  · exact Or.inr (Int32.not_le.mp fun q2 => h ⟨Int32.not_lt.mp q, q2⟩)
theorem s_ride_ne {k : Int32} (h : ¬ s_isRide k = 0) : s_isRide k = 1 := by
  unfold s_isRide at h ⊢
  split
  · rfl
  · rename_i q
    rw [if_neg q] at h
    exact absurd rfl h
theorem s_if0 {p : Prop} [Decidable p] (h : (if p then (1 : Int32) else 0) = 0) : ¬ p := fun q => by
  rw [if_pos q] at h
  exact absurd h (by decide)
theorem s_if1 {p : Prop} [Decidable p] (h : ¬ (if p then (1 : Int32) else 0) = 0) : p := by
  by_cases q : p
  · exact q
  · exact absurd (if_neg q) h
