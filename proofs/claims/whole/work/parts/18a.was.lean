/-! what it was; races by lot -/
theorem zTA_bec {G : zG} {r : Nat → Int32} {n a t i : Nat} {kd fg : Int32} (h : zTA G t r a n) (ha : a < 5) (hi : i < 10) : zTA (g1 (g1 G (t + 2) (upd (G (t + 2)) i kd)) (t + 3) (upd (G (t + 3)) i fg)) t (upd (upd r (2 + 3 * i) kd) (3 + 3 * i) fg) a n := by
  refine ⟨?_, fun j hj => ?_, fun x hx => ?_, fun j hj => ?_⟩
  · rw [g1_n (by omega), g1_n (by omega)]; exact h.1
  · obtain ⟨h1, h2, h3⟩ := h.2.1 j hj
    refine ⟨?_, ?_, ?_⟩
    · rw [g1_n (by omega), g1_s, pk_un (show 2 + 3 * j ≠ 3 + 3 * i by omega)]
      by_cases e : j = i
      · subst e
        rw [pk_us, pk_us]
      · rw [pk_un e, pk_un (by omega)]
        exact h1
    · rw [g1_s]
      by_cases e : j = i
      · subst e
        rw [pk_us, pk_us]
      · rw [pk_un e, pk_un (by omega), pk_un (by omega)]
        exact h2
    · rw [g1_n (by omega), g1_n (by omega), pk_un (by omega), pk_un (by omega)]
      exact h3
  · rw [g1_n (by omega), g1_n (by omega), pk_un (by omega), pk_un (by omega)]; exact h.2.2.1 x hx
  · rw [g1_n (by omega), g1_n (by omega), pk_un (by omega), pk_un (by omega)]; exact h.2.2.2 j hj
theorem zKd_bec {r : Nat → Int32} {n i : Nat} {kd fg : Int32} (h : zKd r n) (hk : ∃ k : Nat, k < 7 ∧ kd = nI k) : zKd (upd (upd r (2 + 3 * i) kd) (3 + 3 * i) fg) n := fun j hj => by
  rw [pk_un (by omega)]
  by_cases e : j = i
  · subst e
    rw [pk_us]
    exact hk
  · rw [pk_un (by omega)]
    exact h j hj
theorem s_all_no {p : Nat → Bool} {n k : Nat} (hk : k < n) (h : ¬ p k = true) : s_all p n = 0 := by
  rcases Nat.eq_zero_or_pos (s_all p n) with q | q
  · exact q
  · exact absurd (s_all_1 (by omega) k hk) h
theorem s_all_y {p : Nat → Bool} {k : Nat} (h : p k = true) : s_all p (k + 1) = s_all p k := if_pos h
theorem s_all_n {p : Nat → Bool} {k : Nat} (h : ¬ p k = true) : s_all p (k + 1) = 0 := if_neg h
theorem s_all_c {p q : Nat → Bool} : ∀ {n : Nat}, (∀ i, i < n → p i = q i) → s_all p n = s_all q n
  | 0, _ => rfl
  | n + 1, h => by
    unfold s_all
    rw [s_all_c (fun i hi => h i (by omega)), h n (by omega)]
/-- 1: all ATHLETES' SECONDS of SECTION i in q are the row's w -/
def q_tl (q : Nat → Int32) (i na : Nat) (w : Nat → Int32) : Nat := s_all (fun a => decide (s_mn 99 (m_sc q a (-1) i) = w a)) na
theorem q_tl_le (q : Nat → Int32) (i na : Nat) (w : Nat → Int32) : q_tl q i na w ≤ 1 := s_all_le _ _
def b_set (p : Nat → Bool) : Nat → Int32
  | 0 => 0
  | k + 1 => if p k = true then b_set p k ||| (1 <<< (nI k &&& 31)) else b_set p k
theorem b_set_y {p : Nat → Bool} {k : Nat} (h : p k = true) : b_set p (k + 1) = b_set p k ||| (1 <<< (nI k &&& 31)) := if_pos h
theorem b_set_n {p : Nat → Bool} {k : Nat} (h : ¬ p k = true) : b_set p (k + 1) = b_set p k := if_neg h
theorem z_or0 (x : Int32) : x ||| 0 = x := by simp
def q_wp (r : Nat → Int32) (na i : Nat) (w : Nat → Int32) (wh k : Nat) : Bool := decide (q_tl (upd r (2 + 3 * i + wh) (nI k)) i na w = 1)
def q_was (r : Nat → Int32) (na i : Nat) (w : Nat → Int32) (wh : Nat) : Int32 := b_set (q_wp r na i w wh) (7 + 3 * wh)
theorem upd_sm {r : Nat → Int32} {x : Nat} : upd r x (r x) = r := by
  funext j
  by_cases h : j = x
  · subst h; rw [pk_us]
  · rw [pk_un h]
theorem upd_kd {r : Nat → Int32} {i : Nat} {v : Int32} : upd (upd r (2 + 3 * i) v) (3 + 3 * i) (r (3 + 3 * i)) = upd r (2 + 3 * i + 0) v := by
  have := upd_sm (r := upd r (2 + 3 * i) v) (x := 3 + 3 * i)
  rw [pk_un (show 3 + 3 * i ≠ 2 + 3 * i by omega)] at this
  exact this
theorem upd_fg {r : Nat → Int32} {i : Nat} {v : Int32} : upd (upd r (2 + 3 * i) (r (2 + 3 * i))) (3 + 3 * i) v = upd r (2 + 3 * i + 1) v := by
  rw [upd_sm, show 2 + 3 * i + 1 = 3 + 3 * i by omega]
def A_was (r : Nat → Int32) (n na : Nat) (m : Int32) (w : Nat → Int32) (i c : Int32) : Int32 × Nat :=
  if zin i n = false then (-1, 1) else if c < 0 ∨ 1 < c then (-2, 2) else if ¬ m = nI na then (-3, 3) else if c = 0 then (q_was r na (zix i) w 0, 0) else (q_was r na (zix i) w 1, 0)
/-- the seed, k draws on -/
def sd (z : Int32) : Nat → Int32
  | 0 => z
  | k + 1 => sd z k * 1664525 + 1013904223
/-- a draw below 4 of the new seed -/
def dr4 (z : Int32) : Int32 := (z &&& 2147483647) / 256 - (z &&& 2147483647) / 256 / 4 * 4
theorem sd_add (z : Int32) (a : Nat) : ∀ b, sd (sd z a) b = sd z (a + b)
  | 0 => rfl
  | b + 1 => by
    show sd (sd z a) b * 1664525 + 1013904223 = sd z (a + b) * 1664525 + 1013904223
    rw [sd_add z a b]
/-- athlete a's race with TRIES drawn in the first i SECTIONS, from c draws on -/
def l_row (r : Nat → Int32) (z : Int32) (c a i : Nat) : Nat → Int32 := fun x => if 52 + 10 * a ≤ x ∧ x < 52 + 10 * a + i then dr4 (sd z (c + (x - (52 + 10 * a)) + 1)) else r x
theorem l_row_0 {r : Nat → Int32} {z : Int32} {c a : Nat} : l_row r z c a 0 = r := by
  funext x
  exact if_neg (by omega)
theorem l_row_st {r : Nat → Int32} {z : Int32} {c a i : Nat} : upd (l_row r z c a i) (52 + 10 * a + i) (dr4 (sd z (c + i + 1))) = l_row r z c a (i + 1) := by
  funext x
  by_cases h : x = 52 + 10 * a + i
  · subst h
    rw [pk_us]
    unfold l_row
    rw [if_pos (by omega), show 52 + 10 * a + i - (52 + 10 * a) = i by omega]
  · rw [pk_un h]
    unfold l_row
    by_cases q : 52 + 10 * a ≤ x ∧ x < 52 + 10 * a + i
    · rw [if_pos q, if_pos (by omega)]
    · rw [if_neg q, if_neg (by omega)]
theorem zKd_l {r : Nat → Int32} {n : Nat} {z : Int32} {c a i : Nat} (h : zKd r n) (hn : n ≤ 10) : zKd (l_row r z c a i) n := fun j hj => by
  unfold l_row
  rw [if_neg (by omega)]
  exact h j hj
/-- FINISH of athlete a in a race by lot from seed z -/
def l_fin (r : Nat → Int32) (n : Nat) (z : Int32) (a : Nat) : Int32 := (m_run (l_row r z (a * n) a n) a (-1) n).2
def l_ok (r : Nat → Int32) (n : Nat) (z : Int32) (a : Nat) : Bool := decide (a = 0 ∨ ¬ l_fin r n z a < l_fin r n z 0)
def l_one (r : Nat → Int32) (n na : Nat) (z : Int32) (wh : Nat) : Int32 := if wh = 0 then l_fin r n z 0 else nI (s_all (l_ok r n z) na)
def l_tot (r : Nat → Int32) (n na : Nat) (z : Int32) (wh : Nat) : Nat → Int32 := s_acc (fun t => l_one r n na (sd z (t * (na * n))) wh) 0
def A_lots (r : Nat → Int32) (n na : Nat) (k z c : Int32) : Int32 × Nat :=
  if k < 1 then (-4, 4) else if 20 < k then (-6, 6) else if c < 0 ∨ 1 < c then (-2, 2) else if na = 0 then (-3, 3) else (l_tot r n na z (zix c) (zix k), 0)
theorem m_run_ca {f g : Nat → Int32} {a n : Nat} {d : Int32} (h : ∀ j, j < 52 → f j = g j) (h2 : ∀ j, j < n → f (52 + 10 * a + j) = g (52 + 10 * a + j)) (ha : a < 5) (hn : n ≤ 10) : ∀ i, i ≤ n → m_run f a d i = m_run g a d i
  | 0, _ => by
    show (f (35 + 4 * a), (0 : Int32)) = (g (35 + 4 * a), 0)
    rw [h _ (by omega)]
  | i + 1, hi => by
    have ih := m_run_ca h h2 ha hn (d := d) i (by omega)
    have hp : m_plain f a i = m_plain g a i := by
      unfold m_plain
      rw [h (2 + 3 * i) (by omega), h (3 + 3 * i) (by omega), h (4 + 3 * i) (by omega), h (32 + 4 * a) (by omega), h (33 + 4 * a) (by omega), h (34 + 4 * a) (by omega), h (2 + 3 * (i - 1)) (by omega)]
    unfold m_run
    simp only [ih, hp]
    rw [h (2 + 3 * i) (by omega), h (4 + 3 * i) (by omega), h2 i (by omega)]
/-- the reference's row: the first c ATHLETES' TRIES drawn, and i of the next one's -/
def l_all (r : Nat → Int32) (n : Nat) (z : Int32) (c i : Nat) : Nat → Int32 := fun x => if 52 ≤ x ∧ x < 102 ∧ (((x - 52) % 10 < n ∧ (x - 52) / 10 < c) ∨ ((x - 52) / 10 = c ∧ (x - 52) % 10 < i)) then dr4 (sd z ((x - 52) / 10 * n + (x - 52) % 10 + 1)) else r x
theorem l_all_st {f r : Nat → Int32} {n : Nat} {z : Int32} {c i : Nat} (hc : c < 5) (hi : i < 10) (hf : ∀ j, j < 102 → f j = l_all r n z c i j) : ∀ j, j < 102 → upd f (52 + 10 * c + i) (dr4 (sd z (c * n + i + 1))) j = l_all r n z c (i + 1) j := fun x hx => by
  by_cases h : x = 52 + 10 * c + i
  · subst h
    rw [pk_us]
    unfold l_all
    rw [show 52 + 10 * c + i - 52 = 10 * c + i by omega, show (10 * c + i) / 10 = c by omega, show (10 * c + i) % 10 = i by omega, if_pos (by omega)]
  · rw [pk_un h, hf x hx]
    unfold l_all
    by_cases q : 52 ≤ x ∧ x < 102 ∧ (((x - 52) % 10 < n ∧ (x - 52) / 10 < c) ∨ ((x - 52) / 10 = c ∧ (x - 52) % 10 < i))
    · rw [if_pos q, if_pos (by omega)]
    · rw [if_neg q, if_neg (by omega)]
theorem l_all_0 {f r : Nat → Int32} {n : Nat} {z : Int32} (h : ∀ j, j < 102 → f j = r j) : ∀ j, j < 102 → f j = l_all r n z 0 0 j := fun x hx => by
  rw [h x hx]
  unfold l_all
  rw [if_neg (by omega)]
theorem l_all_nx {f r : Nat → Int32} {n : Nat} {z : Int32} {c : Nat} (h : ∀ j, j < 102 → f j = l_all r n z c n j) : ∀ j, j < 102 → f j = l_all r n z (c + 1) 0 j := fun x hx => by
  rw [h x hx]
  unfold l_all
  by_cases q : 52 ≤ x ∧ x < 102 ∧ (((x - 52) % 10 < n ∧ (x - 52) / 10 < c) ∨ ((x - 52) / 10 = c ∧ (x - 52) % 10 < n))
  · rw [if_pos q, if_pos (by omega)]
  · rw [if_neg q, if_neg (by omega)]
theorem l_all_fin {f r : Nat → Int32} {n na a : Nat} {z : Int32} (hf : ∀ j, j < 102 → f j = l_all r n z na 0 j) (ha : a < na) (hna : na ≤ 5) (hn : n ≤ 10) : (m_run f a (-1) n).2 = l_fin r n z a := by
  unfold l_fin
  refine congrArg Prod.snd (m_run_ca (fun j hj => ?_) (fun j hj => ?_) (by omega) hn n (Nat.le_refl _))
  · rw [hf j (by omega)]
    unfold l_all l_row
    rw [if_neg (by omega), if_neg (by omega)]
  · rw [hf _ (by omega)]
    unfold l_all l_row
    rw [show 52 + 10 * a + j - 52 = 10 * a + j by omega, show (10 * a + j) / 10 = a by omega, show (10 * a + j) % 10 = j by omega, if_pos (by omega), if_pos (by omega), show 52 + 10 * a + j - (52 + 10 * a) = j by omega]
theorem l_all_n0 {f r : Nat → Int32} {n : Nat} {z : Int32} {c i : Nat} (hf : ∀ j, j < 102 → f j = l_all r n z c i j) (h0 : r 0 = nI n) : f 0 = nI n := by
  rw [hf 0 (by omega)]
  unfold l_all
  rw [if_neg (by omega)]
  exact h0
theorem ww_row {f r : Nat → Int32} {x y : Nat} {v : Int32} (e : x = y) (h : ∀ j, j < 102 → f j = r j) : ∀ j, j < 102 → upd f x v j = upd r y v j := fun j hj => by
  subst e
  by_cases q : j = x
  · subst q; rw [pk_us, pk_us]
  · rw [pk_un q, pk_un q]; exact h j hj
theorem z_nI0 : nI 0 = 0 := rfl
theorem z_nI1 : nI 1 = 1 := rfl
theorem z_b01 {s : Nat} (h : s ≤ 1) : nI s = 0 ∨ nI s = 1 := by
  rcases (show s = 0 ∨ s = 1 by omega) with rfl | rfl
  · exact Or.inl rfl
  · exact Or.inr rfl
theorem zTA_o {G G1 : zG} {r : Nat → Int32} {n a t : Nat} (h : zTA G t r a n) (hF : ∀ k, (t ≤ k ∧ k ≤ t + 10) → G1 k = G k) : zTA G1 t r a n := by
  unfold zTA
  rw [hF _ (by omega), hF _ (by omega), hF _ (by omega), hF _ (by omega), hF _ (by omega), hF _ (by omega)]
  exact h
theorem l_one_f {r : Nat → Int32} {n na wh : Nat} {z : Int32} (h : wh = 0) : l_one r n na z wh = l_fin r n z 0 := if_pos h
theorem l_one_1 {r : Nat → Int32} {n na wh : Nat} {z : Int32} (h : ¬ wh = 0) (h2 : ¬ s_all (l_ok r n z) na = 0) : l_one r n na z wh = 1 := by
  have := s_all_le (l_ok r n z) na
  unfold l_one
  rw [if_neg h, show s_all (l_ok r n z) na = 1 by omega]
  rfl
theorem l_one_0 {r : Nat → Int32} {n na wh : Nat} {z : Int32} (h : ¬ wh = 0) (h2 : s_all (l_ok r n z) na = 0) : l_one r n na z wh = 0 := by
  unfold l_one
  rw [if_neg h, h2]
  rfl
theorem l_tot_st {r : Nat → Int32} {n na wh t : Nat} {z an v : Int32} (h : an = l_tot r n na z wh t) (hv : l_one r n na (sd z (t * (na * n))) wh = v) : an + v = l_tot r n na z wh (t + 1) := by
  rw [h, ← hv]
  rfl
/-- a question of the reference that draws or reads: its own numbers from slot 13 on may change -/
def zQs (A : Int32 × Nat) (G : zG) (r : Int32) (G1 : zG) : Prop := A.1 = r ∧ (∀ k, (k < 92 ∨ k = 93 ∨ (95 ≤ k ∧ k ≤ 98)) → G1 k = G k) ∧ (∀ x, x < 13 → G1 92 x = G 92 x) ∧ G1 99 = zrf (G 99) A.2
theorem zQs_of {A : Int32 × Nat} {G G1 : zG} {v : Int32} {k : Nat} (hA : A = (v, k)) (hF : ∀ k, (k < 92 ∨ k = 93 ∨ (95 ≤ k ∧ k ≤ 98)) → G1 k = G k) (h2 : ∀ x, x < 13 → G1 92 x = G 92 x) (hk : G1 99 = zrf (G 99) k) : zQs A G v G1 := by
  subst hA
  exact ⟨rfl, hF, h2, hk⟩
