/-! searches and counts -/
/-- the first place below n where p, n if there is none -/
def s_fst (p : Nat → Bool) : Nat → Nat
  | 0 => 0
  | n + 1 => if s_fst p n < n then s_fst p n else if p n = true then n else n + 1
theorem s_fst_le (p : Nat → Bool) : ∀ n, s_fst p n ≤ n
  | 0 => Nat.le_refl 0
  | n + 1 => by
    have := s_fst_le p n
    unfold s_fst
    split
    · omega
    · split <;> omega
theorem s_fst_no {p : Nat → Bool} {i : Nat} (h : s_fst p i = i) (hp : ¬ p i = true) : s_fst p (i + 1) = i + 1 := by
  unfold s_fst
  rw [if_neg (by omega), if_neg hp]
theorem s_fst_yes {p : Nat → Bool} {i : Nat} (h : s_fst p i = i) (hp : p i = true) : ∀ {n : Nat}, i < n → s_fst p n = i
  | 0, h => absurd h (Nat.not_lt_zero _)
  | n + 1, hn => by
    unfold s_fst
    rcases Nat.lt_or_ge i n with q | q
    · rw [s_fst_yes h hp q, if_pos q]
    · have e : n = i := by omega
      subst e
      rw [if_neg (by omega), if_pos hp]
theorem s_fst_c {p q : Nat → Bool} : ∀ {n : Nat}, (∀ i, i < n → p i = q i) → s_fst p n = s_fst q n
  | 0, _ => rfl
  | n + 1, h => by
    unfold s_fst
    rw [s_fst_c (fun i hi => h i (by omega)), h n (by omega)]
/-- how many below n -/
def s_cnt (p : Nat → Bool) : Nat → Nat
  | 0 => 0
  | n + 1 => s_cnt p n + if p n = true then 1 else 0
theorem s_cnt_le (p : Nat → Bool) : ∀ n, s_cnt p n ≤ n
  | 0 => Nat.le_refl 0
  | n + 1 => by
    have := s_cnt_le p n
    unfold s_cnt
    split <;> omega
theorem s_cnt_y {p : Nat → Bool} {i : Nat} (h : p i = true) : s_cnt p (i + 1) = s_cnt p i + 1 := by
  show s_cnt p i + _ = _
  rw [if_pos h]
theorem s_cnt_n {p : Nat → Bool} {i : Nat} (h : ¬ p i = true) : s_cnt p (i + 1) = s_cnt p i := by
  show s_cnt p i + _ = _
  rw [if_neg h]
  rfl
theorem s_cnt_c {p q : Nat → Bool} : ∀ {n : Nat}, (∀ i, i < n → p i = q i) → s_cnt p n = s_cnt q n
  | 0, _ => rfl
  | n + 1, h => by
    show s_cnt p n + _ = s_cnt q n + _
    rw [s_cnt_c (fun i hi => h i (by omega)), h n (by omega)]
/-- sums -/
def s_sum (f : Nat → Int32) : Nat → Int32
  | 0 => 0
  | n + 1 => s_sum f n + f n
theorem s_sum_c {f g : Nat → Int32} : ∀ {n : Nat}, (∀ i, i < n → f i = g i) → s_sum f n = s_sum g n
  | 0, _ => rfl
  | n + 1, h => by
    show s_sum f n + f n = s_sum g n + g n
    rw [s_sum_c (fun i hi => h i (by omega)), h n (by omega)]
/-- behind which section LEGS are 0 first -/
def s_gone (lg : Nat → Int32) (n : Nat) : Int32 := if s_fst (fun i => decide (lg i = 0)) n < n then nI (s_fst (fun i => decide (lg i = 0)) n) else -9
theorem s_gone_c {f g : Nat → Int32} {n : Nat} (h : ∀ i, i < n → f i = g i) : s_gone f n = s_gone g n := by
  unfold s_gone
  rw [s_fst_c (p := fun i => decide (f i = 0)) (q := fun i => decide (g i = 0)) (fun i hi => by rw [h i hi])]
/-- in which section one is at t -/
def s_at (al : Nat → Int32) (t : Int32) (n : Nat) : Int32 := nI (s_fst (fun i => decide (t < al i)) n)
theorem s_at_c {f g : Nat → Int32} {t : Int32} {n : Nat} (h : ∀ i, i < n → f i = g i) : s_at f t n = s_at g t n := by
  unfold s_at
  rw [s_fst_c (p := fun i => decide (t < f i)) (q := fun i => decide (t < g i)) (fun i hi => by rw [h i hi])]
/-- x (by its sums a) goes past y (b) in section i -/
def s_past (a b : Nat → Int32) (i : Nat) : Bool := decide (0 < i ∧ b (i - 1) < a (i - 1) ∧ a i < b i)
theorem s_past_c {a b c d : Nat → Int32} {n i : Nat} (h : ∀ i, i < n → a i = c i) (h2 : ∀ i, i < n → b i = d i) (hi : i < n) : s_past a b i = s_past c d i := by
  unfold s_past
  rw [h i hi, h2 i hi, h (i - 1) (by omega), h2 (i - 1) (by omega)]
/-- the section with most SECONDS for each of LENGTH; 99: none yet -/
def s_slow (sc ln : Nat → Int32) : Nat → Nat
  | 0 => 99
  | i + 1 => if s_slow sc ln i = 99 ∨ sc (s_slow sc ln i) * ln i < sc i * ln (s_slow sc ln i) then i else s_slow sc ln i
theorem s_slow_lt {sc ln : Nat → Int32} : ∀ {i : Nat}, s_slow sc ln i = 99 ∨ s_slow sc ln i < i
  | 0 => Or.inl rfl
  | i + 1 => by
    have := @s_slow_lt sc ln i
    unfold s_slow
    split
    · exact Or.inr (by omega)
    · rcases this with q | q
      · exact Or.inl q
      · exact Or.inr (by omega)
theorem s_slow_c {a b c d : Nat → Int32} {m : Nat} (h : ∀ i, i < m → a i = c i) (h2 : ∀ i, i < m → b i = d i) : ∀ {i : Nat}, i ≤ m → s_slow a b i = s_slow c d i
  | 0, _ => rfl
  | i + 1, hi => by
    have ih := s_slow_c h h2 (i := i) (by omega)
    unfold s_slow
    rw [ih]
    rcases @s_slow_lt c d i with q | q
    · rw [if_pos (Or.inl q), if_pos (Or.inl q)]
    · rw [h i (by omega), h2 i (by omega), h _ (Nat.lt_of_lt_of_le q (by omega)), h2 _ (Nat.lt_of_lt_of_le q (by omega))]
/-- a place, or -9 -/
def s_or9 (k : Nat) : Int32 := if k = 99 then -9 else nI k
theorem s_or9_n {k : Nat} (h : s_or9 k = -9) (hk : k < 2 ^ 31) : k = 99 := by
  unfold s_or9 at h
  by_cases q : k = 99
  · exact q
  · rw [if_neg q] at h
    exfalso
    exact nI_pos hk (by rw [h]; decide)
/-- as above, by the first place, none: n -/
def s_first9 (k n : Nat) : Int32 := if k < n then nI k else -9
/-- SECONDS of the changes -/
def s_chs (kd sc : Nat → Int32) : Nat → Int32 := s_sum (fun i => if kd i = 6 then sc i else 0)
theorem m_run_c {f g : Nat → Int32} {a : Nat} {d : Int32} (h : ∀ j, j < 102 → f j = g j) (ha : a < 5) : ∀ i, i ≤ 10 → m_run f a d i = m_run g a d i
  | 0, _ => by
    show (f (35 + 4 * a), (0 : Int32)) = (g (35 + 4 * a), 0)
    rw [h _ (by omega)]
  | i + 1, hi => by
    have ih := m_run_c h ha (d := d) i (by omega)
    have hp : m_plain f a i = m_plain g a i := by
      unfold m_plain
      rw [h (2 + 3 * i) (by omega), h (3 + 3 * i) (by omega), h (4 + 3 * i) (by omega), h (32 + 4 * a) (by omega), h (33 + 4 * a) (by omega), h (34 + 4 * a) (by omega), h (2 + 3 * (i - 1)) (by omega)]
    unfold m_run
    simp only [ih, hp]
    rw [h (2 + 3 * i) (by omega), h (4 + 3 * i) (by omega), h (52 + 10 * a + i) (by omega)]
theorem m_sc_c {f g : Nat → Int32} {a : Nat} {d : Int32} (h : ∀ j, j < 102 → f j = g j) (ha : a < 5) {i : Nat} (hi : i < 10) : m_sc f a d i = m_sc g a d i := by
  have hp : m_plain f a i = m_plain g a i := by
    unfold m_plain
    rw [h (2 + 3 * i) (by omega), h (3 + 3 * i) (by omega), h (4 + 3 * i) (by omega), h (32 + 4 * a) (by omega), h (33 + 4 * a) (by omega), h (34 + 4 * a) (by omega), h (2 + 3 * (i - 1)) (by omega)]
  unfold m_sc
  rw [hp, m_run_c h ha i (by omega), h (52 + 10 * a + i) (by omega)]
/-- a trial that was loaded and has run -/
theorem zTA_load {G G1 : zG} {r : Nat → Int32} {n na a t c : Nat} (hR : zFA G 1 r n na) (hc : c = 1 + 5 + 1 + 3 * a) (ha : a < na) (hmn : G1 (t + 1) 0 = G 2 0) (hkf : ∀ j, j < 10 → G1 (t + 2) j = G (2 + 1) j ∧ G1 (t + 3) j = G (2 + 2) j ∧ G1 (t + 4) j = G (2 + 3) j) (hab : ∀ j, j < 4 → G1 (t + 6) j = G (c + 1) j) (htr : ∀ j, j < 10 → G1 (t + 7) j = G (c + 2) j) : zTA G1 t r a n := by
  refine ⟨hmn.trans hR.1, fun j hj => ?_, fun w hw => (hab w hw).trans (z_ab hR hc ha hw), fun j hj => (htr j hj).trans (z_tr hR hc ha hj)⟩
  obtain ⟨h1, h2, h3⟩ := hkf j hj
  obtain ⟨e1, e2, e3⟩ := hR.2.2.1 j hj
  exact ⟨h1.trans e1, h2.trans e2, h3.trans e3⟩
theorem zTA_fr {G G1 : zG} {r : Nat → Int32} {n a t : Nat} (h : zTA G t r a n) (hF : ∀ k, (k < t + 8 ∨ t + 10 < k) → G1 k = G k) : zTA G1 t r a n := by
  unfold zTA
  rw [hF (t + 1) (by omega), hF (t + 2) (by omega), hF (t + 3) (by omega), hF (t + 4) (by omega), hF (t + 6) (by omega), hF (t + 7) (by omega)]
  exact h
/-- a trial's three rows -/
def zT3 (G : zG) (t : Nat) (r : Nat → Int32) (a : Nat) (d : Int32) (n : Nat) : Prop := ∀ j, j < n → G (t + 8) j = m_sc r a d j ∧ G (t + 9) j = (m_run r a d (j + 1)).1 ∧ G (t + 10) j = (m_run r a d (j + 1)).2
theorem zTA_ran {G G1 : zG} {r : Nat → Int32} {n a t : Nat} {x : Int32} (h : zTA G t r a n) (hk : zKd r n) (hn : n ≤ 10) (hr : (zt_run G t n).2 = x) (hrow : ∀ j, j < n → G1 (t + 8) j = zt_sc G t j ∧ G1 (t + 9) j = (zt_run G t (j + 1)).1 ∧ G1 (t + 10) j = (zt_run G t (j + 1)).2) {d : Int32} (hd : G t 2 = d) : (m_run r a d n).2 = x ∧ zT3 G1 t r a d n := by
  subst hd
  refine ⟨by rw [← zTA_run h hk hn n (Nat.le_refl _)]; exact hr, fun j hj => ?_⟩
  obtain ⟨h1, h2, h3⟩ := hrow j hj
  rw [← zTA_run h hk hn (j + 1) (by omega), ← zTA_sc h hk hn hj]
  exact ⟨h1, h2, h3⟩
theorem zTA_able {G : zG} {r : Nat → Int32} {n a t w : Nat} {v : Int32} (h : zTA G t r a n) (ha : a < 5) (hw : w < 4) : zTA (g1 G (t + 6) (upd (G (t + 6)) w v)) t (upd r (32 + 4 * a + w) v) a n := by
  refine ⟨?_, fun j hj => ?_, fun x hx => ?_, fun j hj => ?_⟩
  · rw [g1_n (by omega)]; exact h.1
  · rw [g1_n (by omega), g1_n (by omega), g1_n (by omega), pk_un (by omega), pk_un (by omega), pk_un (by omega)]; exact h.2.1 j hj
  · rw [g1_s]
    by_cases e : x = w
    · subst e; rw [pk_us, pk_us]
    · rw [pk_un e, pk_un (by omega)]; exact h.2.2.1 x hx
  · rw [g1_n (by omega), pk_un (by omega)]; exact h.2.2.2 j hj
theorem zTA_try {G : zG} {r : Nat → Int32} {n a t w : Nat} {v : Int32} (h : zTA G t r a n) (ha : a < 5) (hw : w < 10) : zTA (g1 G (t + 7) (upd (G (t + 7)) w v)) t (upd r (52 + 10 * a + w) v) a n := by
  refine ⟨?_, fun j hj => ?_, fun x hx => ?_, fun j hj => ?_⟩
  · rw [g1_n (by omega)]; exact h.1
  · rw [g1_n (by omega), g1_n (by omega), g1_n (by omega), pk_un (by omega), pk_un (by omega), pk_un (by omega)]; exact h.2.1 j hj
  · rw [g1_n (by omega), pk_un (by omega)]; exact h.2.2.1 x hx
  · rw [g1_s]
    by_cases e : j = w
    · subst e; rw [pk_us, pk_us]
    · rw [pk_un e, pk_un (by omega)]; exact h.2.2.2 j hj
theorem zTA_d {G : zG} {r : Nat → Int32} {n a t : Nat} {f : Nat → Int32} (h : zTA G t r a n) : zTA (g1 G t f) t r a n := by
  unfold zTA
  rw [g1_n (by omega), g1_n (by omega), g1_n (by omega), g1_n (by omega), g1_n (by omega), g1_n (by omega)]
  exact h
theorem zKd_hi {r : Nat → Int32} {n x : Nat} {v : Int32} (h : zKd r n) (hn : n ≤ 10) (hx : 32 ≤ x) : zKd (upd r x v) n := fun j hj => by
  rw [pk_un (by omega)]
  exact h j hj
/-- TRIES of all rides become v -/
def s_rides (kd tr : Nat → Int32) (v : Int32) : Nat → (Nat → Int32)
  | 0 => tr
  | i + 1 => if s_isRide (kd i) = 1 then upd (s_rides kd tr v i) i v else s_rides kd tr v i
theorem s_rides_y {kd tr : Nat → Int32} {v : Int32} {i : Nat} (h : s_isRide (kd i) = 1) : s_rides kd tr v (i + 1) = upd (s_rides kd tr v i) i v := if_pos h
theorem s_rides_n {kd tr : Nat → Int32} {v : Int32} {i : Nat} (h : ¬ s_isRide (kd i) = 1) : s_rides kd tr v (i + 1) = s_rides kd tr v i := if_neg h
theorem s_chs_y {kd sc : Nat → Int32} {i : Nat} (h : kd i = 6) : s_chs kd sc (i + 1) = s_chs kd sc i + sc i := by
  show s_sum _ i + (if kd i = 6 then sc i else 0) = _
  rw [if_pos h]
  rfl
theorem s_chs_n {kd sc : Nat → Int32} {i : Nat} (h : ¬ kd i = 6) : s_chs kd sc (i + 1) = s_chs kd sc i := by
  show s_sum _ i + (if kd i = 6 then sc i else 0) = _
  rw [if_neg h, Int32.add_zero]
  rfl
