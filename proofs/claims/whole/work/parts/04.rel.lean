/-! HOW THE CLASS'S ROWS AND THE REFERENCE'S AGREE; r: the reference's row of the race, n SECTIONS, na ATHLETES -/
def zin (i : Int32) (n : Nat) : Bool := decide (0 ≤ i.toInt) && decide (i.toInt < n)
theorem zin_t {j n : Nat} (hj : j < n) (hn : n < 2 ^ 31) : zin (nI j) n = true := by
  unfold zin
  rw [nI_toInt (by omega)]
  simp
  omega
theorem zin_f {i : Int32} {n : Nat} (hn : n < 2 ^ 31) (h : ¬ ∃ j : Nat, j < n ∧ i = nI j) : zin i n = false := by
  cases hz : zin i n with
  | false => rfl
  | true =>
    exfalso
    unfold zin at hz
    simp at hz
    have h1 : ¬ i < 0 := fun q => by
      have := Int32.lt_iff_toInt_lt.mp q
      simp at this
      omega
    obtain ⟨j, hj, rfl⟩ := nI_of h1
    rw [nI_toInt hj] at hz
    exact h ⟨j, by omega, rfl⟩
/-- an index as a Nat -/
def zix (i : Int32) : Nat := i.toNatClampNeg
theorem zix_n {j : Nat} (h : j < 2 ^ 31) : zix (nI j) = j := nI_clamp h
/-- refusals k and one more (0: none) -/
def zrf (f : Nat → Int32) (k : Nat) : Nat → Int32 := if k = 0 then f else upd f k (f k + 1)
/-- every KIND is one -/
def zKd (r : Nat → Int32) (n : Nat) : Prop := ∀ j, j < n → ∃ k : Nat, k < 7 ∧ r (2 + 3 * j) = nI k
/-- a trial (its cells from t on) is athlete a's race of r -/
def zTA (G : zG) (t : Nat) (r : Nat → Int32) (a n : Nat) : Prop := G (t + 1) 0 = nI n ∧ (∀ j, j < 10 → G (t + 2) j = r (2 + 3 * j) ∧ G (t + 3) j = r (3 + 3 * j) ∧ G (t + 4) j = r (4 + 3 * j)) ∧ (∀ w, w < 4 → G (t + 6) w = r (32 + 4 * a + w)) ∧ ∀ j, j < 10 → G (t + 7) j = r (52 + 10 * a + j)
/-- a field (its cells from f on) is r -/
def zFA (G : zG) (f : Nat) (r : Nat → Int32) (n na : Nat) : Prop := G (f + 1) 0 = nI n ∧ G f 2 = nI na ∧ (∀ j, j < 10 → G (f + 2) j = r (2 + 3 * j) ∧ G (f + 3) j = r (3 + 3 * j) ∧ G (f + 4) j = r (4 + 3 * j)) ∧ ∀ a, a < na → (∀ w, w < 4 → G (f + 7 + 3 * a) w = r (32 + 4 * a + w)) ∧ ∀ j, j < 10 → G (f + 8 + 3 * a) j = r (52 + 10 * a + j)
theorem m_takes_s {k : Nat} (h : k < 7) : m_takes (nI k) = s_takes (nI k) := by
  rcases (show k = 0 ∨ k = 1 ∨ k = 2 ∨ k = 3 ∨ k = 4 ∨ k = 5 ∨ k = 6 by omega) with rfl | rfl | rfl | rfl | rfl | rfl | rfl <;> decide
theorem m_plain_s (r : Nat → Int32) (a i : Nat) : m_plain r a i = s_plain (fun j => r (2 + 3 * j)) (fun j => r (3 + 3 * j)) (fun j => r (4 + 3 * j)) (fun w => r (32 + 4 * a + w)) i := by
  have e1 : 32 + 4 * a + 1 = 33 + 4 * a := by omega
  have e2 : 32 + 4 * a + 2 = 34 + 4 * a := by omega
  unfold m_plain s_plain
  simp only [e1, e2, Nat.add_zero]
  generalize r (2 + 3 * i) = k
  generalize r (3 + 3 * i) = f
  generalize r (4 + 3 * i) = n
  generalize r (32 + 4 * a) = x0
  generalize r (33 + 4 * a) = x1
  generalize r (34 + 4 * a) = x2
  have q1 : n * (20 - x0) - n * f = n * (20 - x0 - f) := by grind
  have q2 : n * (20 - x1) + n * f = n * (20 - x1 + f) := by grind
  have q3 : n * (20 - x1) + n * (f / 2) = n * (20 - x1 + f / 2) := by
    generalize f / 2 = h
    grind
  rw [q1, q2, q3]
theorem m_max_s (v : Int32) : s_max 0 v = s_mx 0 v := by
  unfold s_max s_mx
  by_cases h : v < 0
  · rw [if_pos h, if_neg (fun q => by have := Int32.lt_iff_toInt_lt.mp q; have := Int32.lt_iff_toInt_lt.mp h; omega)]
  · rw [if_neg h]
    by_cases h2 : 0 < v
    · rw [if_pos h2]
    · rw [if_neg h2]
      have a1 := Int32.not_lt.mp h
      have a2 := Int32.not_lt.mp h2
      exact Int32.le_antisymm a2 a1
theorem m_min_s (v : Int32) : s_min 99 v = s_mn 99 v := by
  unfold s_min s_mn
  by_cases h : 99 < v
  · rw [if_pos h, if_neg (fun q => by have := Int32.lt_iff_toInt_lt.mp q; have := Int32.lt_iff_toInt_lt.mp h; omega)]
  · rw [if_neg h]
    by_cases h2 : v < 99
    · rw [if_pos h2]
    · rw [if_neg h2]
      exact Int32.le_antisymm (Int32.not_lt.mp h) (Int32.not_lt.mp h2)
theorem m_leg_s {k : Nat} (h : k < 7) (n t g : Int32) : m_leg (nI k) n t g = s_leg (nI k) n t g := by
  have e : m_left (nI k) n t g = s_left (nI k) n t g := by
    unfold m_left s_left
    rw [m_max_s, m_takes_s h]
    have : t * s_takes (nI k) * n = s_takes (nI k) * n * t := by
      generalize s_takes (nI k) = z
      grind
    rw [this]
  unfold m_leg s_leg
  rw [e, m_min_s]
theorem zTA_plain {G : zG} {t : Nat} {r : Nat → Int32} {a n : Nat} (h : zTA G t r a n) (hn : n ≤ 10) : ∀ i, i < n → s_plain (G (t + 2)) (G (t + 3)) (G (t + 4)) (G (t + 6)) i = m_plain r a i := fun i hi => by
    rw [m_plain_s]
    have hc := h.2.1 i (by omega)
    have hc1 := h.2.1 (i - 1) (by omega)
    unfold s_plain
    simp only [hc.1, hc.2.1, hc.2.2, hc1.1, h.2.2.1 0 (by omega), h.2.2.1 1 (by omega), h.2.2.1 2 (by omega)]
theorem zTA_run {G : zG} {t : Nat} {r : Nat → Int32} {a n : Nat} (h : zTA G t r a n) (hk : zKd r n) (hn : n ≤ 10) : ∀ i, i ≤ n → zt_run G t i = m_run r a (G t 2) i
  | 0, _ => by
    show (G (t + 6) 3, (0 : Int32)) = (r (35 + 4 * a), 0)
    rw [h.2.2.1 3 (by omega), show 32 + 4 * a + 3 = 35 + 4 * a by omega]
  | i + 1, hi => by
    have ih := zTA_run h hk hn i (by omega)
    have hc := h.2.1 i (by omega)
    obtain ⟨k, hk7, ek⟩ := hk i (by omega)
    have ht := h.2.2.2 i (by omega)
    have hp := zTA_plain h hn i (by omega)
    unfold zt_run at ih ⊢
    unfold s_run m_run
    simp only [ih, hc.1, hc.2.2, ht]
    rw [hp, ek, m_leg_s hk7]
    rw [m_min_s]
theorem zTA_sc {G : zG} {t : Nat} {r : Nat → Int32} {a n : Nat} (h : zTA G t r a n) (hk : zKd r n) (hn : n ≤ 10) {i : Nat} (hi : i < n) : zt_sc G t i = m_sc r a (G t 2) i := by
  have h1 := zTA_run h hk hn i (by omega)
  have hp := zTA_plain h hn i hi
  have ht := h.2.2.2 i (by omega)
  unfold zt_run at h1
  unfold zt_sc s_sc m_sc
  rw [hp, ht, h1]
/-- the planner's two rows, this way or that -/
def zPl (G : zG) : Prop := (G 70 6 = 0 ∧ G 70 7 = 1) ∨ (G 70 6 = 1 ∧ G 70 7 = 0)
theorem z_plk {G G1 : zG} (h : G1 70 = G 70) (hp : zPl G) : zPl G1 := by
  unfold zPl at hp ⊢
  rw [h]
  exact hp
/-- a question of the class: its answer A.1, refusal A.2; what it leaves -/
def zQc (A : Int32 × Nat) (G : zG) (r : Int32) (G1 : zG) : Prop := A.1 = r ∧ (∀ k, (k < 47 ∨ 91 < k) → G1 k = G k) ∧ G1 47 = zrf (G 47) A.2 ∧ zPl G1
theorem z_ab {G : zG} {r : Nat → Int32} {n na a i w : Nat} (hR : zFA G 1 r n na) (ha : a = 1 + 5 + 1 + 3 * i) (hi : i < na) (hw : w < 4) : G (a + 1) w = r (32 + 4 * i + w) := by
  have := (hR.2.2.2 i hi).1 w hw
  rw [show a + 1 = 1 + 7 + 3 * i by omega]
  exact this
theorem z_tr {G : zG} {r : Nat → Int32} {n na a i w : Nat} (hR : zFA G 1 r n na) (ha : a = 1 + 5 + 1 + 3 * i) (hi : i < na) (hw : w < 10) : G (a + 2) w = r (52 + 10 * i + w) := by
  have := (hR.2.2.2 i hi).2 w hw
  rw [show a + 2 = 1 + 8 + 3 * i by omega]
  exact this
theorem z_rng {x M : Int32} {m : Nat} (h : ¬ x < 0) (h2 : x ≤ M) (hM : M = nI (m - 1)) (hm : 0 < m ∧ m < 2 ^ 31) : ∃ j : Nat, j < m ∧ x = nI j := by
  rcases pk_ix x hm.2 with q | q | q
  · exact absurd q h
  · exfalso
    rw [hM] at h2
    exact nI_ge (show m - 1 < m by omega) hm.2 (Int32.le_trans q h2)
  · exact q
/-- answers: (the answer, which refusal) -/
def A_section (r : Nat → Int32) (n : Nat) (i what : Int32) : Int32 × Nat :=
  if zin i n = false then (-1, 1) else if what = 3 then (s_takes (r (2 + 3 * zix i)), 0) else if what < 0 ∨ 2 < what then (-2, 2) else (r (2 + 3 * zix i + zix what), 0)
theorem z_213 (r : Nat → Int32) (j : Nat) : r (2 + 3 * j + 1) = r (3 + 3 * j) := congrArg r (by omega)
theorem z_214 (r : Nat → Int32) (j : Nat) : r (2 + 3 * j + 2) = r (4 + 3 * j) := congrArg r (by omega)
theorem zix_0c : zix 0 = 0 := rfl
theorem zix_1c : zix 1 = 1 := rfl
theorem zix_2c : zix 2 = 2 := rfl
theorem z_ne3 {w : Nat} (h : w < 3) : ¬ nI w = 3 := fun q => by
  have := (nI_eq (show w < 2 ^ 31 by omega) (show 3 < 2 ^ 31 by decide)).mp q
  omega
theorem z_lt3 {w : Nat} (h : w < 3) : ¬ nI w < 0 ∧ ¬ 2 < nI w := ⟨nI_pos (by omega), fun q => by
  have := (nI_ltI (show 2 < 2 ^ 31 by decide) (show w < 2 ^ 31 by omega)).mp q
  omega⟩
theorem z_out3 {x : Int32} (h0 : ¬ x = 0) (h1 : ¬ x = 1) (h2 : ¬ x = 2) : x < 0 ∨ 2 < x := by
  by_cases a : x < 0
  · exact Or.inl a
  · refine Or.inr (Int32.not_le.mp fun b => ?_)
    obtain ⟨j, hj, rfl⟩ := z_rng (m := 3) a b rfl (by decide)
    rcases (show j = 0 ∨ j = 1 ∨ j = 2 by omega) with rfl | rfl | rfl
    · exact h0 rfl
    · exact h1 rfl
    · exact h2 rfl
def A_athlete (r : Nat → Int32) (na : Nat) (i what : Int32) : Int32 × Nat :=
  if zin i na = false then (-1, 1) else if what < 0 ∨ 3 < what then (-2, 2) else (r (32 + 4 * zix i + zix what), 0)
def A_tries (r : Nat → Int32) (n na : Nat) (a i : Int32) : Int32 × Nat :=
  if zin a na = false ∨ zin i n = false then (-1, 1) else (r (52 + 10 * zix a + zix i), 0)
theorem zQc_of {A : Int32 × Nat} {G G1 : zG} {v : Int32} {k : Nat} (hA : A = (v, k)) (hF : ∀ k, (k < 47 ∨ 91 < k) → G1 k = G k) (hk : G1 47 = zrf (G 47) k) (hp : zPl G1) : zQc A G v G1 := by
  subst hA
  exact ⟨rfl, hF, hk, hp⟩
/-- a question of the reference -/
def zQm (A : Int32 × Nat) (G : zG) (r : Int32) (G1 : zG) : Prop := A.1 = r ∧ (∀ k, (k < 94 ∨ (95 ≤ k ∧ k ≤ 98)) → G1 k = G k) ∧ G1 99 = zrf (G 99) A.2
theorem zQm_of {A : Int32 × Nat} {G G1 : zG} {v : Int32} {k : Nat} (hA : A = (v, k)) (hF : ∀ k, (k < 94 ∨ (95 ≤ k ∧ k ≤ 98)) → G1 k = G k) (hk : G1 99 = zrf (G 99) k) : zQm A G v G1 := by
  subst hA
  exact ⟨rfl, hF, hk⟩
theorem z_tk {r : Nat → Int32} {n j : Nat} (h : zKd r n) (hj : j < n) : m_takes (r (2 + 3 * j)) = s_takes (r (2 + 3 * j)) := by
  obtain ⟨k, hk, e⟩ := h j hj
  rw [e, m_takes_s hk]
