theorem s_or9_neg {k : Nat} (h : s_or9 k < 0) (hk : k < 2 ^ 31) : k = 99 := by
  unfold s_or9 at h
  by_cases q : k = 99
  · exact q
  · rw [if_neg q] at h
    exact absurd h (nI_pos hk)
/-- the least of x0, f 0, f 1, .., and the first place where it is (99: none) -/
def s_best (f : Nat → Int32) (x0 : Int32) : Nat → Int32 × Nat
  | 0 => (x0, 99)
  | i + 1 => if f i < (s_best f x0 i).1 then (f i, i) else s_best f x0 i
theorem s_best_y {f : Nat → Int32} {x0 : Int32} {i : Nat} (h : f i < (s_best f x0 i).1) : s_best f x0 (i + 1) = (f i, i) := if_pos h
theorem s_best_n {f : Nat → Int32} {x0 : Int32} {i : Nat} (h : ¬ f i < (s_best f x0 i).1) : s_best f x0 (i + 1) = s_best f x0 i := if_neg h
theorem s_best_lt {f : Nat → Int32} {x0 : Int32} : ∀ {i : Nat}, (s_best f x0 i).2 = 99 ∨ (s_best f x0 i).2 < i
  | 0 => Or.inl rfl
  | i + 1 => by
    by_cases h : f i < (s_best f x0 i).1
    · rw [s_best_y h]
      exact Or.inr (Nat.lt_succ_self i)
    · rw [s_best_n h]
      rcases @s_best_lt f x0 i with q | q
      · exact Or.inl q
      · exact Or.inr (by omega)
/-- where to drink -/
def q_drink (r : Nat → Int32) (n a : Nat) : Int32 × Nat := s_best (fun i => (m_run r a (nI i) n).2) (q_fin r n a) n
def A_drink (r : Nat → Int32) (n na : Nat) (a w : Int32) : Int32 × Nat :=
  if zin a na = false then (-1, 1) else if w < 0 ∨ 1 < w then (-2, 2)
  else if w = 0 ∨ (q_drink r n (zix a)).2 = 99 then (s_or9 (q_drink r n (zix a)).2, 0) else ((q_drink r n (zix a)).1, 0)
theorem s_or9_k {k : Nat} (h : k < 2 ^ 31) (hk : k ≠ 99) : ¬ s_or9 k = -9 ∧ ¬ s_or9 k < 0 := by
  unfold s_or9
  rw [if_neg hk]
  exact ⟨fun q => nI_pos h (by rw [q]; decide), nI_pos h⟩
/-- the first of 0 .. k with the least -/
def s_arg (f : Nat → Int32) : Nat → Nat
  | 0 => 0
  | k + 1 => if f (k + 1) < f (s_arg f k) then k + 1 else s_arg f k
theorem s_arg_le (f : Nat → Int32) : ∀ k, s_arg f k ≤ k
  | 0 => Nat.le_refl 0
  | k + 1 => by
    have := s_arg_le f k
    unfold s_arg
    split <;> omega
def q_tr (r : Nat → Int32) (n a w : Nat) : Int32 := q_with r n a w 1
def A_train (r : Nat → Int32) (n na : Nat) (a w : Int32) : Int32 × Nat :=
  if zin a na = false then (1000000000 - (-1), 1) else if w < 0 ∨ 1 < w then (1000000000 - (-2), 2)
  else if w = 0 then (nI (s_arg (q_tr r n (zix a)) 2), 0) else (q_fin r n (zix a) - q_tr r n (zix a) (s_arg (q_tr r n (zix a)) 2), 0)
theorem s_past_0 (a b : Nat → Int32) : ¬ s_past a b 0 = true := fun q => absurd (of_decide_eq_true q).1 (Nat.lt_irrefl 0)
theorem s_fst_st {p : Nat → Bool} {i : Nat} (h : s_fst p i < i) : s_fst p (i + 1) = s_fst p i := by
  show (if s_fst p i < i then _ else _) = _
  rw [if_pos h]
theorem s_past_end {p : Nat → Bool} {i n k : Nat} {fi : Int32} (h0 : ¬ p 0 = true) (hin : 1 ≤ i ∧ i ≤ n + 1) (hin2 : i ≤ n ∨ n = 0) (hi : n ≤ i) (hk : k = s_cnt p i) (hfi : (k = 0 ∧ fi = -9 ∧ s_fst p i = i) ∨ (0 < k ∧ s_fst p i < i ∧ fi = nI (s_fst p i))) : nI (s_cnt p n) = nI k ∧ s_first9 (s_fst p n) n = fi := by
  rcases hin2 with q | q
  · have e : i = n := by omega
    subst e
    refine ⟨by rw [hk], ?_⟩
    unfold s_first9
    rcases hfi with ⟨_, h2, h3⟩ | ⟨_, h2, h3⟩
    · rw [h3, if_neg (Nat.lt_irrefl _), h2]
    · rw [if_pos h2, h3]
  · subst q
    have e : i = 1 := by omega
    subst e
    have e1 : s_cnt p 1 = 0 := s_cnt_n h0
    rw [e1] at hk
    subst hk
    refine ⟨rfl, ?_⟩
    rcases hfi with ⟨_, h2, _⟩ | ⟨h1, _⟩
    · rw [h2]; rfl
    · exact absurd h1 (Nat.lt_irrefl 0)
