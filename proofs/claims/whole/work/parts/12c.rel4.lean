/-! two who choose; the hardest ride -/
def s_hind (f : Nat → Int32) (k g : Nat) : Int32 := if k < g then f k + 5 else f k
def s_isb (f : Nat → Int32) (x y : Nat) : Bool := decide (¬ s_hind f 0 y < s_hind f x y ∧ ¬ s_hind f 1 y < s_hind f x y ∧ ¬ s_hind f 2 y < s_hind f x y ∧ ¬ s_hind f 3 y < s_hind f x y)
theorem s_isb_t {f : Nat → Int32} {x y : Nat} (h : ∀ k, k < 4 → ¬ s_hind f k y < s_hind f x y) : s_isb f x y = true := decide_eq_true ⟨h 0 (by decide), h 1 (by decide), h 2 (by decide), h 3 (by decide)⟩
theorem s_isb_e {f : Nat → Int32} {x y : Nat} (h : s_isb f x y = true) : ∀ k, k < 4 → ¬ s_hind f k y < s_hind f x y := fun k hk => by
  obtain ⟨h0, h1, h2, h3⟩ := of_decide_eq_true h
  rcases (show k = 0 ∨ k = 1 ∨ k = 2 ∨ k = 3 by omega) with rfl | rfl | rfl | rfl
  · exact h0
  · exact h1
  · exact h2
  · exact h3
def s_pair (f g : Nat → Int32) (p : Nat) : Bool := s_isb f (p / 4) (p % 4) && s_isb g (p % 4) (p / 4)
def s_two (f g : Nat → Int32) : Int32 := if s_fst (s_pair f g) 16 < 16 then nI (10 * (s_fst (s_pair f g) 16 / 4) + s_fst (s_pair f g) 16 % 4) else -9
theorem s_pair_at {f g : Nat → Int32} {x y : Nat} (hy : y < 4) : s_pair f g (4 * x + y) = (s_isb f x y && s_isb g y x) := by
  unfold s_pair
  rw [show (4 * x + y) / 4 = x by omega, show (4 * x + y) % 4 = y by omega]
theorem s_two_y {f g : Nat → Int32} {x y : Nat} (hx : x < 4) (hy : y < 4) (hf : s_fst (s_pair f g) (4 * x + y) = 4 * x + y) (h : s_isb f x y = true ∧ s_isb g y x = true) : s_two f g = nI (10 * x + y) := by
  have h1 := s_fst_yes (n := 16) hf (by rw [s_pair_at hy, h.1, h.2]; rfl) (by omega)
  unfold s_two
  rw [h1, if_pos (by omega), show (4 * x + y) / 4 = x by omega, show (4 * x + y) % 4 = y by omega]
theorem s_two_n {f g : Nat → Int32} (hf : s_fst (s_pair f g) 16 = 16) : s_two f g = -9 := by
  unfold s_two
  rw [hf, if_neg (by decide)]
theorem s_hind_c {f g : Nat → Int32} {k y : Nat} (h : ∀ j, j < 4 → f j = g j) (hk : k < 4) : s_hind f k y = s_hind g k y := by
  unfold s_hind
  rw [h k hk]
theorem s_isb_c {f g : Nat → Int32} {x y : Nat} (h : ∀ j, j < 4 → f j = g j) (hx : x < 4) : s_isb f x y = s_isb g x y := by
  unfold s_isb
  rw [s_hind_c (y := y) h hx, s_hind_c (y := y) h (show 0 < 4 by decide), s_hind_c (y := y) h (show 1 < 4 by decide), s_hind_c (y := y) h (show 2 < 4 by decide), s_hind_c (y := y) h (show 3 < 4 by decide)]
theorem s_two_c {f g a b : Nat → Int32} (h : ∀ j, j < 4 → f j = a j) (h2 : ∀ j, j < 4 → g j = b j) : s_two f g = s_two a b := by
  unfold s_two
  have e : s_fst (s_pair f g) 16 = s_fst (s_pair a b) 16 := s_fst_c (fun p hp => by
    unfold s_pair
    rw [s_isb_c h (by omega), s_isb_c h2 (by omega)])
  rw [e]
def q_tries (r : Nat → Int32) (n a i : Nat) : Nat → Int32 := fun v => q_try r n a i (nI v)
def A_two (r : Nat → Int32) (n na : Nat) (a b i : Int32) : Int32 × Nat :=
  if zin a na = false ∨ zin b na = false ∨ a = b ∨ zin i n = false then (-1, 1) else (s_two (q_tries r n (zix a) (zix i)) (q_tries r n (zix b) (zix i)), 0)
/-- 1 while all so far, else 0 -/
def s_all (p : Nat → Bool) : Nat → Nat
  | 0 => 1
  | k + 1 => if p k = true then s_all p k else 0
theorem s_all_le (p : Nat → Bool) : ∀ k, s_all p k ≤ 1
  | 0 => Nat.le_refl 1
  | k + 1 => by
    have := s_all_le p k
    unfold s_all
    split <;> omega
theorem s_all_1 {p : Nat → Bool} : ∀ {n : Nat}, s_all p n ≠ 0 → ∀ k, k < n → p k = true
  | 0, _, k, h => absurd h (Nat.not_lt_zero k)
  | n + 1, h, k, hk => by
    unfold s_all at h
    by_cases q : p n = true
    · rw [if_pos q] at h
      rcases Nat.lt_or_ge k n with a | a
      · exact s_all_1 h k a
      · rw [show k = n by omega]; exact q
    · rw [if_neg q] at h
      exact absurd rfl h
theorem s_all_0 {p : Nat → Bool} : ∀ {n : Nat}, s_all p n = 0 → ∃ k, k < n ∧ ¬ p k = true
  | 0, h => absurd h (by show ¬ (1 : Nat) = 0; decide)
  | n + 1, h => by
    unfold s_all at h
    by_cases q : p n = true
    · rw [if_pos q] at h
      obtain ⟨k, h1, h2⟩ := s_all_0 h
      exact ⟨k, by omega, h2⟩
    · exact ⟨n, Nat.lt_succ_self n, q⟩
def s_both (f g : Nat → Int32) (x y : Nat) (k : Nat) : Bool := decide (¬ s_hind f k y < s_hind f x y ∧ ¬ s_hind g k x < s_hind g y x)
theorem s_both_1 {f g : Nat → Int32} {x y : Nat} (h : s_all (s_both f g x y) 4 ≠ 0) : s_isb f x y = true ∧ s_isb g y x = true :=
  ⟨s_isb_t fun k hk => (of_decide_eq_true (s_all_1 h k hk)).1, s_isb_t fun k hk => (of_decide_eq_true (s_all_1 h k hk)).2⟩
theorem s_both_0 {f g : Nat → Int32} {x y : Nat} (hy : y < 4) (h : s_all (s_both f g x y) 4 = 0) : ¬ s_pair f g (4 * x + y) = true := by
  obtain ⟨k, hk, q⟩ := s_all_0 h
  rw [s_pair_at hy]
  intro z
  rw [Bool.and_eq_true] at z
  exact q (decide_eq_true ⟨s_isb_e z.1 k hk, s_isb_e z.2 k hk⟩)
theorem z_and1 {b : Nat} (h : b ≤ 1) : nI b &&& 1 = nI b := by
  rcases (show b = 0 ∨ b = 1 by omega) with rfl | rfl <;> decide
theorem z_and0 (x : Int32) : x &&& 0 = 0 := by simp
/-- all rides at v -/
def s_rd (r : Nat → Int32) (a : Nat) (v : Int32) : Nat → (Nat → Int32)
  | 0 => r
  | i + 1 => if s_isRide (r (2 + 3 * i)) = 1 then upd (s_rd r a v i) (52 + 10 * a + i) v else s_rd r a v i
theorem s_rd_y {r : Nat → Int32} {a i : Nat} {v : Int32} (h : s_isRide (r (2 + 3 * i)) = 1) : s_rd r a v (i + 1) = upd (s_rd r a v i) (52 + 10 * a + i) v := if_pos h
theorem s_rd_n {r : Nat → Int32} {a i : Nat} {v : Int32} (h : ¬ s_isRide (r (2 + 3 * i)) = 1) : s_rd r a v (i + 1) = s_rd r a v i := if_neg h
theorem s_rd_o {r : Nat → Int32} {a : Nat} {v : Int32} : ∀ (i x : Nat), (x < 52 + 10 * a ∨ 52 + 10 * a + i ≤ x) → s_rd r a v i x = r x
  | 0, _, _ => rfl
  | i + 1, x, h => by
    by_cases q : s_isRide (r (2 + 3 * i)) = 1
    · rw [s_rd_y q, pk_un (by omega)]
      exact s_rd_o i x (by omega)
    · rw [s_rd_n q]
      exact s_rd_o i x (by omega)
theorem s_rd_at {r : Nat → Int32} {a : Nat} {v : Int32} : ∀ (i j : Nat), s_rd r a v i (52 + 10 * a + j) = if j < i ∧ s_isRide (r (2 + 3 * j)) = 1 then v else r (52 + 10 * a + j)
  | 0, j => by rw [if_neg (fun q => absurd q.1 (Nat.not_lt_zero j))]; rfl
  | i + 1, j => by
    by_cases q : s_isRide (r (2 + 3 * i)) = 1
    · rw [s_rd_y q]
      by_cases e : j = i
      · subst e
        rw [pk_us, if_pos ⟨Nat.lt_succ_self j, q⟩]
      · rw [pk_un (by omega), s_rd_at i j]
        by_cases c : j < i ∧ s_isRide (r (2 + 3 * j)) = 1
        · rw [if_pos c, if_pos ⟨by omega, c.2⟩]
        · rw [if_neg c, if_neg (fun z => c ⟨by omega, z.2⟩)]
    · rw [s_rd_n q, s_rd_at i j]
      by_cases c : j < i ∧ s_isRide (r (2 + 3 * j)) = 1
      · rw [if_pos c, if_pos ⟨by omega, c.2⟩]
      · rw [if_neg c, if_neg (fun z => c ⟨by
          rcases Nat.lt_or_ge j i with h | h
          · exact h
          · exfalso
            rw [show j = i by omega] at z
            exact q z.2, z.2⟩)]
theorem s_rides_at {kd tr : Nat → Int32} {v : Int32} : ∀ (i j : Nat), s_rides kd tr v i j = if j < i ∧ s_isRide (kd j) = 1 then v else tr j
  | 0, j => by rw [if_neg (fun q => absurd q.1 (Nat.not_lt_zero j))]; rfl
  | i + 1, j => by
    by_cases q : s_isRide (kd i) = 1
    · rw [s_rides_y q]
      by_cases e : j = i
      · subst e
        rw [pk_us, if_pos ⟨Nat.lt_succ_self j, q⟩]
      · rw [pk_un e, s_rides_at i j]
        by_cases c : j < i ∧ s_isRide (kd j) = 1
        · rw [if_pos c, if_pos ⟨by omega, c.2⟩]
        · rw [if_neg c, if_neg (fun z => c ⟨by omega, z.2⟩)]
    · rw [s_rides_n q, s_rides_at i j]
      by_cases c : j < i ∧ s_isRide (kd j) = 1
      · rw [if_pos c, if_pos ⟨by omega, c.2⟩]
      · rw [if_neg c, if_neg (fun z => c ⟨by
          rcases Nat.lt_or_ge j i with h | h
          · exact h
          · exfalso
            rw [show j = i by omega] at z
            exact q z.2, z.2⟩)]
/-- a trial that is r but for TRIES in rides -/
def zTR (G : zG) (t : Nat) (r : Nat → Int32) (a n : Nat) : Prop := G (t + 1) 0 = nI n ∧ (∀ j, j < 10 → G (t + 2) j = r (2 + 3 * j) ∧ G (t + 3) j = r (3 + 3 * j) ∧ G (t + 4) j = r (4 + 3 * j)) ∧ (∀ w, w < 4 → G (t + 6) w = r (32 + 4 * a + w)) ∧ (∀ j, j < 10 → (j < n ∧ s_isRide (r (2 + 3 * j)) = 1) ∨ G (t + 7) j = r (52 + 10 * a + j)) ∧ G t 2 = -9
theorem zTR_ride {G : zG} {t a n : Nat} {r : Nat → Int32} {v : Int32} (h : zTR G t r a n) (hn : n ≤ 10) (ha : a < 5) : zTA (g1 G (t + 7) (s_rides (G (t + 2)) (G (t + 7)) v n)) t (s_rd r a v n) a n ∧ zTR (g1 G (t + 7) (s_rides (G (t + 2)) (G (t + 7)) v n)) t r a n := by
  obtain ⟨h1, h2, h3, h4, h5⟩ := h
  refine ⟨⟨?_, fun j hj => ?_, fun w hw => ?_, fun j hj => ?_⟩, ?_, fun j hj => ?_, fun w hw => ?_, fun j hj => ?_, ?_⟩
  · rw [g1_n (by omega)]; exact h1
  · rw [g1_n (by omega), g1_n (by omega), g1_n (by omega), s_rd_o n _ (by omega), s_rd_o n _ (by omega), s_rd_o n _ (by omega)]; exact h2 j hj
  · rw [g1_n (by omega), s_rd_o n _ (by omega)]; exact h3 w hw
  · rw [g1_s, s_rides_at, s_rd_at, (h2 j hj).1]
    by_cases c : j < n ∧ s_isRide (r (2 + 3 * j)) = 1
    · rw [if_pos c, if_pos c]
    · rw [if_neg c, if_neg c]
      exact (h4 j hj).resolve_left c
  · rw [g1_n (by omega)]; exact h1
  · rw [g1_n (by omega), g1_n (by omega), g1_n (by omega)]; exact h2 j hj
  · rw [g1_n (by omega)]; exact h3 w hw
  · rw [g1_s, s_rides_at, (h2 j hj).1]
    by_cases c : j < n ∧ s_isRide (r (2 + 3 * j)) = 1
    · exact Or.inl c
    · rw [if_neg c]
      exact Or.inr ((h4 j hj).resolve_left c)
  · rw [g1_n (by omega)]; exact h5
theorem zTR_fr {G G1 : zG} {r : Nat → Int32} {n a t : Nat} (h : zTR G t r a n) (hF : ∀ k, (k < t + 8 ∨ t + 10 < k) → G1 k = G k) : zTR G1 t r a n := by
  unfold zTR
  rw [hF t (by omega), hF (t + 1) (by omega), hF (t + 2) (by omega), hF (t + 3) (by omega), hF (t + 4) (by omega), hF (t + 6) (by omega), hF (t + 7) (by omega)]
  exact h
theorem zTR_of {G : zG} {r : Nat → Int32} {n a t : Nat} (h : zTA G t r a n) (hd : G t 2 = -9) : zTR G t r a n := ⟨h.1, h.2.1, h.2.2.1, fun j hj => Or.inr (h.2.2.2 j hj), hd⟩
theorem zKd_rd {r : Nat → Int32} {n a i : Nat} {v : Int32} (h : zKd r n) (hn : n ≤ 10) : zKd (s_rd r a v i) n := fun j hj => by
  rw [s_rd_o i _ (by omega)]
  exact h j hj
/-- LEGS at the FINISH with all rides at v -/
def q_hd (r : Nat → Int32) (n a : Nat) (v : Int32) : Int32 := (m_run (s_rd r a v n) a (-1) n).1
def A_hardest (r : Nat → Int32) (n na : Nat) (a : Int32) : Int32 × Nat :=
  if zin a na = false then (-1, 1) else if 0 < q_hd r n (zix a) 3 then (3, 0) else if 0 < q_hd r n (zix a) 2 then (2, 0) else if 0 < q_hd r n (zix a) 1 then (1, 0) else if 0 < q_hd r n (zix a) 0 then (0, 0) else (-9, 0)
/-- legs behind all, by the class -/
theorem q_hd_c {G G1 : zG} {r : Nat → Int32} {n a t : Nat} {v : Int32} (hT : zTA G t (s_rd r a v n) a n) (hk : zKd r n) (hn : n ≤ 10) (ha : a < 5) (hd : G t 2 = -9) (h6 : G1 (t + 6) = G (t + 6)) (hrow : ∀ j, j < n → G1 (t + 8) j = zt_sc G t j ∧ G1 (t + 9) j = (zt_run G t (j + 1)).1 ∧ G1 (t + 10) j = (zt_run G t (j + 1)).2) : (if n = 0 then G1 (t + 6) 3 else G1 (t + 9) (n - 1)) = q_hd r n a v := by
  unfold q_hd
  by_cases h : n = 0
  · subst h
    rw [if_pos rfl, h6, hT.2.2.1 3 (by decide), s_rd_o 0 _ (by omega)]
    show r _ = s_rd r a v 0 (35 + 4 * a)
    rw [s_rd_o 0 _ (by omega), show 32 + 4 * a + 3 = 35 + 4 * a by omega]
  · rw [if_neg h]
    obtain ⟨_, h2⟩ := zTA_ran9 hT (zKd_rd hk hn) hn rfl hrow hd
    have h3 := (h2 (n - 1) (by omega)).2.1
    rw [show n - 1 + 1 = n by omega] at h3
    exact h3
theorem q_hd_0 {r : Nat → Int32} {n a : Nat} {v : Int32} (h : n = 0) : q_hd r n a v = r (35 + 4 * a) := by
  subst h; rfl
theorem q_hd_m {f r : Nat → Int32} {n a i : Nat} {v : Int32} (h : n ≠ 0) (hi : i ≤ n) (hj : n ≤ i) (hn : n ≤ 10) (ha : a < 5) (hf : ∀ j, j < 102 → f j = s_rd r a v i j) : q_hd r n a v = (m_run f a (-1) (n - 1 + 1)).1 := by
  have e : i = n := Nat.le_antisymm hi hj
  subst e
  rw [show i - 1 + 1 = i by omega, m_run_c hf ha i hn]; rfl
