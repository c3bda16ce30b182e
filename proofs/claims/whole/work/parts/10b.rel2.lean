theorem zFA_fr {G G1 : zG} {r : Nat → Int32} {n na : Nat} (h : zFA G 1 r n na) (hF : ∀ k, (1 ≤ k ∧ k ≤ 21) → G1 k = G k) (hna : na ≤ 5) : zFA G1 1 r n na := by
  refine ⟨?_, ?_, ?_, ?_⟩
  · rw [hF _ (by omega)]; exact h.1
  · rw [hF _ (by omega)]; exact h.2.1
  · intro j hj
    rw [hF _ (by omega), hF _ (by omega), hF _ (by omega)]
    exact h.2.2.1 j hj
  · intro a ha
    have h4 := h.2.2.2 a ha
    refine ⟨fun w hw => ?_, fun j hj => ?_⟩
    · rw [hF _ (by omega)]; exact h4.1 w hw
    · rw [hF _ (by omega)]; exact h4.2 j hj
theorem m_run_neg (r : Nat → Int32) (a : Nat) : ∀ i, i ≤ 10 → m_run r a (-9) i = m_run r a (-1) i
  | 0, _ => rfl
  | i + 1, hi => by
    have ih := m_run_neg r a i (by omega)
    have h1 : ¬ nI i = -9 := fun q => nI_pos (show i < 2 ^ 31 by omega) (by rw [q]; decide)
    have h2 : ¬ nI i = -1 := fun q => nI_pos (show i < 2 ^ 31 by omega) (by rw [q]; decide)
    unfold m_run
    simp only [ih]
    rw [if_neg h1, if_neg h2]
theorem m_sc_neg (r : Nat → Int32) (a : Nat) {i : Nat} (hi : i < 10) : m_sc r a (-9) i = m_sc r a (-1) i := by
  unfold m_sc
  rw [m_run_neg r a i (by omega)]
theorem zTA_ran9 {G G1 : zG} {r : Nat → Int32} {n a t : Nat} {x : Int32} (h : zTA G t r a n) (hk : zKd r n) (hn : n ≤ 10) (hr : (zt_run G t n).2 = x) (hrow : ∀ j, j < n → G1 (t + 8) j = zt_sc G t j ∧ G1 (t + 9) j = (zt_run G t (j + 1)).1 ∧ G1 (t + 10) j = (zt_run G t (j + 1)).2) (hd : G t 2 = -9) : (m_run r a (-1) n).2 = x ∧ zT3 G1 t r a (-1) n := by
  obtain ⟨h1, h2⟩ := zTA_ran h hk hn hr hrow hd
  refine ⟨by rw [← m_run_neg r a n hn]; exact h1, fun j hj => ?_⟩
  obtain ⟨a1, a2, a3⟩ := h2 j hj
  rw [← m_run_neg r a (j + 1) (by omega), ← m_sc_neg r a (by omega)]
  exact ⟨a1, a2, a3⟩
theorem s_gone_y {lg : Nat → Int32} {n i : Nat} (h : s_fst (fun i => decide (lg i = 0)) n = i) (hi : i < n) : s_gone lg n = nI i := by
  unfold s_gone
  rw [h, if_pos hi]
theorem s_gone_n {lg : Nat → Int32} {n : Nat} (h : s_fst (fun i => decide (lg i = 0)) n = n) : s_gone lg n = -9 := by
  unfold s_gone
  rw [h, if_neg (Nat.lt_irrefl _)]
theorem s_at_y {al : Nat → Int32} {t : Int32} {n i : Nat} (h : s_fst (fun i => decide (t < al i)) n = i) : s_at al t n = nI i := by
  unfold s_at
  rw [h]
/-- FINISH by the plan -/
def q_fin (r : Nat → Int32) (n a : Nat) : Int32 := (m_run r a (-1) n).2
def q_leg (r : Nat → Int32) (a i : Nat) : Int32 := (m_run r a (-1) (i + 1)).1
def q_all (r : Nat → Int32) (a i : Nat) : Int32 := (m_run r a (-1) (i + 1)).2
def A_by (r : Nat → Int32) (n na : Nat) (a i w : Int32) : Int32 × Nat :=
  if zin a na = false ∨ zin i n = false then (-1, 1) else if w < 0 ∨ 2 < w then (-2, 2)
  else if w = 0 then (m_sc r (zix a) (-1) (zix i), 0) else if w = 1 then (q_leg r (zix a) (zix i), 0) else (q_all r (zix a) (zix i), 0)
def q_place (r : Nat → Int32) (n na : Nat) (x : Int32) : Int32 := nI (1 + s_cnt (fun b => decide ((m_run r b (-1) n).2 < x)) na)
def A_finish (r : Nat → Int32) (n na : Nat) (a w : Int32) : Int32 × Nat :=
  if zin a na = false then (-1, 1) else if w < 0 ∨ 2 < w then (-2, 2)
  else if w = 0 then (q_fin r n (zix a), 0) else if w = 1 then (s_gone (q_leg r (zix a)) n, 0) else (q_place r n na (q_fin r n (zix a)), 0)
def A_at (r : Nat → Int32) (n na : Nat) (a t : Int32) : Int32 × Nat :=
  if zin a na = false then (-1, 1) else if t < 0 then (-4, 4) else if 999 < t then (-6, 6) else (s_at (q_all r (zix a)) t n, 0)
def A_overtakes (r : Nat → Int32) (n na : Nat) (a b w : Int32) : Int32 × Nat :=
  if zin a na = false ∨ zin b na = false ∨ a = b then (-1, 1) else if w < 0 ∨ 1 < w then (-2, 2)
  else if w = 0 then (nI (s_cnt (s_past (q_all r (zix a)) (q_all r (zix b))) n), 0) else (s_first9 (s_fst (s_past (q_all r (zix a)) (q_all r (zix b))) n) n, 0)
def A_weakest (r : Nat → Int32) (n na : Nat) (a : Int32) : Int32 × Nat :=
  if zin a na = false then (-1, 1) else (s_or9 (s_slow (m_sc r (zix a) (-1)) (fun i => r (4 + 3 * i)) n), 0)
def q_with (r : Nat → Int32) (n a w : Nat) (v : Int32) : Int32 := (m_run (upd r (32 + 4 * a + w) (s_mn 9 (r (32 + 4 * a + w) + v))) a (-1) n).2
def A_meadow (r : Nat → Int32) (n na : Nat) (a w : Int32) : Int32 × Nat :=
  if zin a na = false then (-1, 1) else if w < 0 ∨ 1 < w then (-2, 2)
  else if w = 0 then (s_chs (fun i => r (2 + 3 * i)) (m_sc r (zix a) (-1)) n, 0)
  else if q_fin r n (zix a) - q_with r n (zix a) 1 3 < s_chs (fun i => r (2 + 3 * i)) (m_sc r (zix a) (-1)) n then (1, 0) else (0, 0)
def q_try (r : Nat → Int32) (n a i : Nat) (v : Int32) : Int32 := (m_run (upd r (52 + 10 * a + i) v) a (-1) n).2
theorem s_chs_c {a b c d : Nat → Int32} {n : Nat} (h : ∀ i, i < n → a i = c i) (h2 : ∀ i, i < n → b i = d i) : s_chs a b n = s_chs c d n := by
  unfold s_chs
  exact s_sum_c (fun i hi => by rw [h i hi, h2 i hi])
theorem s_min_mn (a b : Int32) : s_min a b = s_mn a b := by
  unfold s_min s_mn
  by_cases h : a < b
  · rw [if_pos h, if_neg (fun q => by have := Int32.lt_iff_toInt_lt.mp q; have := Int32.lt_iff_toInt_lt.mp h; omega)]
  · rw [if_neg h]
    by_cases h2 : b < a
    · rw [if_pos h2]
    · rw [if_neg h2]
      exact Int32.le_antisymm (Int32.not_lt.mp h) (Int32.not_lt.mp h2)
theorem upd_c {f g : Nat → Int32} {i : Nat} {v : Int32} (h : ∀ j, j < 102 → f j = g j) : ∀ j, j < 102 → upd f i v j = upd g i v j := fun j hj => by
  by_cases e : j = i
  · subst e
    rw [pk_us, pk_us]
  · rw [pk_un e, pk_un e]
    exact h j hj
theorem q_with_m {r f : Nat → Int32} {n a w : Nat} {v : Int32} (hf : ∀ j, j < 102 → f j = r j) (ha : a < 5) (hn : n ≤ 10) : (m_run (upd f (32 + 4 * a + w) (s_min 9 (r (32 + 4 * a + w) + v))) a (-1) n).2 = q_with r n a w v := by
  unfold q_with
  rw [s_min_mn, m_run_c (upd_c hf) ha n hn]
theorem q_try_m {r f : Nat → Int32} {n a i : Nat} {v : Int32} (hf : ∀ j, j < 102 → f j = r j) (ha : a < 5) (hn : n ≤ 10) : (m_run (upd f (52 + 10 * a + i) v) a (-1) n).2 = q_try r n a i v := by
  unfold q_try
  rw [m_run_c (upd_c hf) ha n hn]
