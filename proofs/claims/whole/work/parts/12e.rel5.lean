/-! more of the two, and of orders -/
theorem z_ib0 {b : Bool} (h : (if b = true then (1 : Int32) else 0) = 0) : b = false := by
  cases b
  · rfl
  · exact absurd h (by decide)
theorem z_ib1 {b : Bool} (h : ¬ (if b = true then (1 : Int32) else 0) = 0) : b = true := by
  cases b
  · exact absurd rfl h
  · rfl
theorem s_up_l {F g : Nat → Int32} {k : Nat} {v : Int32} (h : ∀ j, j < k → F j = g j) (hv : g k = v) : ∀ j, j < k + 1 → upd F k v j = g j := fun j hj => by
  by_cases e : j = k
  · subst e; exact pk_us.trans hv.symm
  · exact (pk_un e).trans (h j (by omega))
theorem s_hind_q (r : Nat → Int32) (n a i k g : Nat) : s_hind (q_tries r n a i) k g = q_try r n a i (nI k) + (if k < g then 5 else 0) := by
  unfold s_hind
  by_cases h : k < g
  · rw [if_pos h, if_pos h]; rfl
  · rw [if_neg h, if_neg h, Int32.add_zero]; rfl
def o_in (v : Nat → Int32) (i : Nat) (b : Int32 × Int32) : Nat → Int32 × Int32
  | 0 => b
  | k + 1 => if v (i + 1 + k) < (o_in v i b k).1 then (v (i + 1 + k), nI (10 * i + (i + 1 + k))) else o_in v i b k
def o_out (v : Nat → Nat → Int32) (n : Nat) (b : Int32 × Int32) : Nat → Int32 × Int32
  | 0 => b
  | i + 1 => o_in (v i) i (o_out v n b i) (n - (i + 1))
theorem o_in_y {v : Nat → Int32} {i k : Nat} {P : Int32 × Int32} {b z : Int32} (h : (b, z) = o_in v i P k) (hv : v (i + 1 + k) < b) : (v (i + 1 + k), nI (10 * i + (i + 1 + k))) = o_in v i P (k + 1) := by
  show _ = if v (i + 1 + k) < (o_in v i P k).1 then _ else _
  rw [← h, if_pos hv]
theorem o_in_n {v : Nat → Int32} {i k : Nat} {P : Int32 × Int32} {b z : Int32} (h : (b, z) = o_in v i P k) (hv : ¬ v (i + 1 + k) < b) : (b, z) = o_in v i P (k + 1) := by
  show _ = if v (i + 1 + k) < (o_in v i P k).1 then _ else _
  rw [← h, if_neg hv]
theorem o_end {v : Nat → Nat → Int32} {n i : Nat} {P : Int32 × Int32} {b z : Int32} (h : (b, z) = o_out v n P i) (hi : i = n) : (o_out v n P n).2 = z := by
  subst hi
  rw [← h]
def q_ord (r : Nat → Int32) (n a i j : Nat) : Int32 := (m_run (s_chg r i j 3) a (-1) n).2
def A_order (r : Nat → Int32) (n na : Nat) (a : Int32) : Int32 × Nat :=
  if zin a na = false then (-1, 1) else ((o_out (q_ord r n (zix a)) n (q_fin r n (zix a), -9) n).2, 0)
theorem s_chg_c {f g : Nat → Int32} {i j : Nat} (hi : i < 10) (hj : j < 10) (h : ∀ x, x < 102 → f x = g x) : ∀ k, k ≤ 3 → ∀ x, x < 102 → s_chg f i j k x = s_chg g i j k x
  | 0, _, x, hx => h x hx
  | k + 1, hk, x, hx => by
    have ih := s_chg_c hi hj h k (by omega)
    show s_sw (s_chg f i j k) _ _ x = s_sw (s_chg g i j k) _ _ x
    unfold s_sw upd
    rw [ih (2 + 3 * j + k) (by omega), ih (2 + 3 * i + k) (by omega), ih x hx]
theorem q_ord_c {f r : Nat → Int32} {n a i j : Nat} (h : ∀ x, x < 102 → f x = r x) (hi : i < 10) (hj : j < 10) (ha : a < 5) (hn : n ≤ 10) : (m_run (s_chg f i j 3) a (-1) n).2 = q_ord r n a i j := by
  unfold q_ord
  rw [m_run_c (s_chg_c hi hj h 3 (Nat.le_refl _)) ha n hn]
theorem s_chg_inv {r : Nat → Int32} {i j : Nat} (hi : i < 10) (hj : j < 10) (hij : i ≠ j) : s_chg (s_chg r i j 3) i j 3 = r := by
  funext x
  rcases (show x < 2 ∨ 32 ≤ x ∨ (2 ≤ x ∧ x < 32) by omega) with h | h | ⟨h1, h2⟩
  · rw [s_chg_lo 3 x h, s_chg_lo 3 x h]
  · rw [s_chg_hi hi hj 3 x (Nat.le_refl _) h, s_chg_hi hi hj 3 x (Nat.le_refl _) h]
  · obtain ⟨y, c, hc, rfl⟩ : ∃ y c : Nat, c < 3 ∧ x = 2 + 3 * y + c := ⟨(x - 2) / 3, (x - 2) % 3, by omega, by omega⟩
    rw [s_chg_at hij hc 3 (Nat.le_refl _) hc, s_chg_at hij hc 3 (Nat.le_refl _) hc, s_chg_at hij hc 3 (Nat.le_refl _) hc, s_chg_at hij hc 3 (Nat.le_refl _) hc, if_pos rfl, if_neg (Ne.symm hij), if_pos rfl]
    by_cases e : y = i
    · rw [if_pos e, e]
    · rw [if_neg e]
      by_cases e2 : y = j
      · rw [if_pos e2, e2]
      · rw [if_neg e2, if_neg e, if_neg e2]
theorem zKd_chg {r : Nat → Int32} {n i k : Nat} (h : zKd r n) (hi : i < n) (hk : k < n) (hik : i ≠ k) : zKd (s_chg r i k 3) n := fun j hj => by
  have e := s_chg_at (r := r) (x := j) hik (show 0 < 3 by decide) 3 (Nat.le_refl _) (by decide)
  rw [show 2 + 3 * j = 2 + 3 * j + 0 from rfl, e]
  by_cases h1 : j = i
  · rw [if_pos h1]; exact h k hk
  · rw [if_neg h1]
    by_cases h2 : j = k
    · rw [if_pos h2]; exact h i hi
    · rw [if_neg h2]; exact h j hj
theorem zTA_chg {G : zG} {r : Nat → Int32} {n a t i k : Nat} (h : zTA G t r a n) (hi : i < 10) (hk : k < 10) (hik : i ≠ k) : zTA (g1 (g1 (g1 G (t + 2) (s_sw (G (t + 2)) i k)) (t + 3) (s_sw (G (t + 3)) i k)) (t + 4) (s_sw (G (t + 4)) i k)) t (s_chg r i k 3) a n := by
  obtain ⟨h1, h2, h3, h4⟩ := h
  have hx : ∀ (o : Nat), o < 3 → ∀ (F : Nat → Int32), (∀ j, j < 10 → F j = r (2 + 3 * j + o)) → ∀ j, j < 10 → s_sw F i k j = s_chg r i k 3 (2 + 3 * j + o) := fun o ho F hF j hj => by
    rw [s_chg_at hik ho 3 (Nat.le_refl _) ho, s_sw_if hik, hF i hi, hF k hk, hF j hj]
  refine ⟨?_, fun j hj => ⟨?_, ?_, ?_⟩, fun w hw => ?_, fun j hj => ?_⟩
  · rw [g1_n (by omega), g1_n (by omega), g1_n (by omega)]; exact h1
  · rw [g1_n (by omega), g1_n (by omega), g1_s]; exact hx 0 (by decide) _ (fun j hj => (h2 j hj).1) j hj
  · rw [g1_n (by omega), g1_s, show 3 + 3 * j = 2 + 3 * j + 1 by omega]; exact hx 1 (by decide) _ (fun j hj => by rw [show 2 + 3 * j + 1 = 3 + 3 * j by omega]; exact (h2 j hj).2.1) j hj
  · rw [g1_s, show 4 + 3 * j = 2 + 3 * j + 2 by omega]; exact hx 2 (by decide) _ (fun j hj => by rw [show 2 + 3 * j + 2 = 4 + 3 * j by omega]; exact (h2 j hj).2.2) j hj
  · rw [g1_n (by omega), g1_n (by omega), g1_n (by omega), s_chg_hi hi hk 3 _ (Nat.le_refl _) (by omega)]; exact h3 w hw
  · rw [g1_n (by omega), g1_n (by omega), g1_n (by omega), s_chg_hi hi hk 3 _ (Nat.le_refl _) (by omega)]; exact h4 j hj
