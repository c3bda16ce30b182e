/-! how great SECONDS and LEGS can be -/
/-- SECTIONS of the race are as they must be -/
def zVs (r : Nat → Int32) (n : Nat) : Prop := ∀ i, i < n → ∃ k f l : Nat, k < 7 ∧ f ≤ 9 ∧ 1 ≤ l ∧ l ≤ 9 ∧ r (2 + 3 * i) = nI k ∧ r (3 + 3 * i) = nI f ∧ r (4 + 3 * i) = nI l
/-- an ATHLETE of it -/
def zVa (r : Nat → Int32) (a : Nat) : Prop := (∀ w, w < 3 → ∃ s : Nat, s ≤ 9 ∧ r (32 + 4 * a + w) = nI s) ∧ (∃ g : Nat, g ≤ 99 ∧ r (35 + 4 * a) = nI g) ∧ ∀ i, i < 10 → ∃ t : Nat, t ≤ 3 ∧ r (52 + 10 * a + i) = nI t
def zVr (r : Nat → Int32) (n na : Nat) : Prop := zVs r n ∧ ∀ a, a < na → zVa r a
theorem zKd_V {r : Nat → Int32} {n : Nat} (h : zVs r n) : zKd r n := fun j hj => by
  obtain ⟨k, f, l, h1, _, _, _, h2, _⟩ := h j hj
  exact ⟨k, h1, h2⟩
theorem z_less {w a b : Nat} (h : a ≤ w) (hb : b ≤ 18) (hw : 20 ≤ w) (l : Nat) (hl : l ≤ 9) : l * (w - a) ≤ 9 * w := Nat.mul_le_mul hl (Nat.sub_le w a)
theorem plain_b {r : Nat → Int32} {n a i : Nat} (hs : zVs r n) (ha : zVa r a) (hi : i < n) : ∃ p : Nat, p ≤ 300 ∧ m_plain r a i = nI p := by
  obtain ⟨k, f, l, hk, hf, hl1, hl, e1, e2, e3⟩ := hs i hi
  obtain ⟨s0, hs0, q0⟩ := ha.1 0 (by decide)
  obtain ⟨s1, hs1, q1⟩ := ha.1 1 (by decide)
  obtain ⟨s2, hs2, q2⟩ := ha.1 2 (by decide)
  rw [show 32 + 4 * a + 0 = 32 + 4 * a by omega] at q0
  rw [show 32 + 4 * a + 1 = 33 + 4 * a by omega] at q1
  rw [show 32 + 4 * a + 2 = 34 + 4 * a by omega] at q2
  have m0 : l * (20 - s0) ≤ 9 * 20 := Nat.mul_le_mul hl (Nat.sub_le 20 s0)
  have m1 : l * (20 - s1) ≤ 9 * 20 := Nat.mul_le_mul hl (Nat.sub_le 20 s1)
  have m2 : l * (22 - s2) ≤ 9 * 22 := Nat.mul_le_mul hl (Nat.sub_le 22 s2)
  have mf : l * f ≤ 9 * 9 := Nat.mul_le_mul hl hf
  have mh : l * (f / 2) ≤ 9 * 4 := Nat.mul_le_mul hl (by omega)
  have d0 : (20 : Int32) - nI s0 = nI (20 - s0) := pk_sub (show s0 ≤ 20 by omega)
  have d1 : (20 : Int32) - nI s1 = nI (20 - s1) := pk_sub (show s1 ≤ 20 by omega)
  have d2 : (22 : Int32) - nI s2 = nI (22 - s2) := pk_sub (show s2 ≤ 22 by omega)
  unfold m_plain
  rw [e1, e2, e3, q0, q1, q2, d0, d1, d2]
  rcases (show k = 0 ∨ k = 1 ∨ k = 2 ∨ k = 3 ∨ k = 4 ∨ k = 5 ∨ k = 6 by omega) with rfl | rfl | rfl | rfl | rfl | rfl | rfl
  · rw [if_pos (by decide), pk_mul]; exact ⟨_, by omega, rfl⟩
  · have hle : l * f ≤ l * (20 - s0) := Nat.mul_le_mul_left l (by omega)
    rw [if_neg (by decide), if_pos (by decide), pk_mul, pk_mul, pk_sub hle]; exact ⟨_, by omega, rfl⟩
  · rw [if_neg (by decide), if_neg (by decide), if_pos (by decide), pk_mul]; exact ⟨_, by omega, rfl⟩
  · rw [if_neg (by decide), if_neg (by decide), if_neg (by decide), if_pos (by decide), pk_mul, pk_mul, nI_add]; exact ⟨_, by omega, rfl⟩
  · have hh : nI f / 2 = nI (f / 2) := pk_div (d := 2) (by omega) (by decide) (by decide)
    rw [if_neg (by decide), if_neg (by decide), if_neg (by decide), if_neg (by decide), if_pos (by decide), hh, pk_mul, pk_mul, nI_add]; exact ⟨_, by omega, rfl⟩
  · rw [if_neg (by decide), if_neg (by decide), if_neg (by decide), if_neg (by decide), if_neg (by decide), if_pos (by decide), pk_mul]
    by_cases c : 0 < i ∧ s_isRide (r (2 + 3 * (i - 1))) = 1
    · rw [if_pos c, nI_add, nI_add]; exact ⟨_, by omega, rfl⟩
    · rw [if_neg c, Int32.add_zero]; exact ⟨_, by omega, rfl⟩
  · rw [if_neg (by decide), if_neg (by decide), if_neg (by decide), if_neg (by decide), if_neg (by decide), if_neg (by decide)]
    rw [show (10 : Int32) = nI 10 from rfl, show (5 : Int32) = nI 5 from rfl, pk_mul, nI_add]; exact ⟨_, by omega, rfl⟩
theorem sec_b {p t : Nat} {g : Int32} (hp : p ≤ 300) (ht : t ≤ 3) : ∃ s : Nat, s ≤ 400 ∧ s_sec (nI p) (nI t) g = nI s := by
  have m : p * t ≤ p * 3 := Nat.mul_le_mul_left p ht
  unfold s_sec
  by_cases c : 0 < g
  · have hd : nI (p * t) / 10 = nI (p * t / 10) := pk_div (d := 10) (by omega) (by decide) (by decide)
    rw [if_pos c, pk_mul, hd, pk_sub (by omega)]; exact ⟨_, by omega, rfl⟩
  · have hd : nI p / 4 = nI (p / 4) := pk_div (d := 4) (by omega) (by decide) (by decide)
    rw [if_neg c, hd, nI_add]; exact ⟨_, by omega, rfl⟩
theorem run_b {r : Nat → Int32} {n a : Nat} {d : Int32} (hs : zVs r n) (ha : zVa r a) (hn : n ≤ 10) : ∀ i, i ≤ n → ∃ s : Nat, s ≤ 400 * i ∧ (m_run r a d i).2 = nI s
  | 0, _ => ⟨0, by decide, rfl⟩
  | i + 1, h => by
    obtain ⟨s, h1, h2⟩ := run_b hs ha hn (d := d) i (by omega)
    obtain ⟨p, h3, h4⟩ := plain_b hs ha (show i < n by omega)
    obtain ⟨t, h5, h6⟩ := ha.2.2 i (by omega)
    obtain ⟨u, h7, h8⟩ := sec_b (g := (m_run r a d i).1) h3 h5
    refine ⟨s + u, by omega, ?_⟩
    show (m_run r a d i).2 + s_sec (m_plain r a i) (r (52 + 10 * a + i)) (m_run r a d i).1 = _
    rw [h2, h4, h6, h8, nI_add]
theorem fin_b {r : Nat → Int32} {n a : Nat} {d : Int32} (hs : zVs r n) (ha : zVa r a) (hn : n ≤ 10) : ∃ s : Nat, s ≤ 4000 ∧ (m_run r a d n).2 = nI s := by
  obtain ⟨s, h1, h2⟩ := run_b hs ha hn (d := d) n (Nat.le_refl n)
  exact ⟨s, by omega, h2⟩
/-- a part of a row from the next place on -/
def s_shf (F : Nat → Int32) (i K : Nat) : Nat → Int32 := fun j => if i ≤ j ∧ j < K then F (j + 1) else F j
theorem s_shf_0 {F : Nat → Int32} {i j : Nat} : s_shf F i i j = F j := if_neg (by omega)
theorem s_shf_st {f F : Nat → Int32} {i K j : Nat} (hik : i ≤ K) (h : f j = s_shf F i K j) (h2 : f (K + 1) = s_shf F i K (K + 1)) : upd f K (f (K + 1)) j = s_shf F i (K + 1) j := by
  by_cases e : j = K
  · subst e
    rw [pk_us, h2]
    unfold s_shf
    rw [if_neg (by omega), if_pos (by omega)]
  · rw [pk_un e, h]
    unfold s_shf
    by_cases c : i ≤ j ∧ j < K
    · rw [if_pos c, if_pos (by omega)]
    · rw [if_neg c, if_neg (by omega)]
/-- the race without SECTION i, as far as number K -/
def s_lv (r : Nat → Int32) (a i K : Nat) : Nat → Int32 := fun x => if x = 0 then r 0 - 1 else if 2 + 3 * i ≤ x ∧ x < 2 + 3 * K then r (x + 3) else if 52 + 10 * a + i ≤ x ∧ x < 52 + 10 * a + K then r (x + 1) else r x
theorem s_lv_k {r : Nat → Int32} {a i K j c : Nat} (hc : c < 3) (hj : j < 10) : s_lv r a i K (2 + 3 * j + c) = s_shf (fun j => r (2 + 3 * j + c)) i K j := by
  unfold s_lv s_shf
  rw [if_neg (by omega)]
  by_cases q : i ≤ j ∧ j < K
  · rw [if_pos (by omega), if_pos q]
    show r (2 + 3 * j + c + 3) = r (2 + 3 * (j + 1) + c)
    rw [show 2 + 3 * j + c + 3 = 2 + 3 * (j + 1) + c by omega]
  · rw [if_neg (by omega), if_neg (by omega), if_neg q]
theorem s_lv_t {r : Nat → Int32} {a i K j : Nat} (hK : K ≤ 10) (hj : j < 10) : s_lv r a i K (52 + 10 * a + j) = s_shf (fun j => r (52 + 10 * a + j)) i K j := by
  unfold s_lv s_shf
  rw [if_neg (by omega), if_neg (by omega)]
  by_cases q : i ≤ j ∧ j < K
  · rw [if_pos (by omega), if_pos q]
    show r (52 + 10 * a + j + 1) = r (52 + 10 * a + (j + 1))
    rw [show 52 + 10 * a + j + 1 = 52 + 10 * a + (j + 1) by omega]
  · rw [if_neg (by omega), if_neg q]
theorem s_lv_a {r : Nat → Int32} {a i K w : Nat} (hK : K ≤ 10) (ha : a < 5) (hw : w < 4) : s_lv r a i K (32 + 4 * a + w) = r (32 + 4 * a + w) := by
  unfold s_lv
  rw [if_neg (by omega), if_neg (by omega), if_neg (by omega)]
theorem zVs_lv {r : Nat → Int32} {a i n : Nat} (h : zVs r n) (hn : n ≤ 10) : zVs (s_lv r a i (n - 1)) (n - 1) := fun j hj => by
  have e0 := s_lv_k (r := r) (a := a) (i := i) (K := n - 1) (j := j) (c := 0) (by decide) (by omega)
  have e1 := s_lv_k (r := r) (a := a) (i := i) (K := n - 1) (j := j) (c := 1) (by decide) (by omega)
  have e2 := s_lv_k (r := r) (a := a) (i := i) (K := n - 1) (j := j) (c := 2) (by decide) (by omega)
  rw [show 2 + 3 * j + 0 = 2 + 3 * j by omega] at e0
  rw [show 2 + 3 * j + 1 = 3 + 3 * j by omega] at e1
  rw [show 2 + 3 * j + 2 = 4 + 3 * j by omega] at e2
  rw [e0, e1, e2]
  unfold s_shf
  by_cases q : i ≤ j ∧ j < n - 1
  · rw [if_pos q, if_pos q, if_pos q]
    obtain ⟨k, f, l, a1, a2, a3, a4, a5, a6, a7⟩ := h (j + 1) (by omega)
    exact ⟨k, f, l, a1, a2, a3, a4, a5, by show r (2 + 3 * (j + 1) + 1) = _; rw [show 2 + 3 * (j + 1) + 1 = 3 + 3 * (j + 1) by omega]; exact a6, by show r (2 + 3 * (j + 1) + 2) = _; rw [show 2 + 3 * (j + 1) + 2 = 4 + 3 * (j + 1) by omega]; exact a7⟩
  · rw [if_neg q, if_neg q, if_neg q]
    obtain ⟨k, f, l, a1, a2, a3, a4, a5, a6, a7⟩ := h j (by omega)
    exact ⟨k, f, l, a1, a2, a3, a4, a5, by show r (2 + 3 * j + 1) = _; rw [show 2 + 3 * j + 1 = 3 + 3 * j by omega]; exact a6, by show r (2 + 3 * j + 2) = _; rw [show 2 + 3 * j + 2 = 4 + 3 * j by omega]; exact a7⟩
theorem zVa_lv {r : Nat → Int32} {a i n : Nat} (h : zVa r a) (ha : a < 5) (hn : n ≤ 10) : zVa (s_lv r a i (n - 1)) a := by
  refine ⟨fun w hw => ?_, ?_, fun j hj => ?_⟩
  · rw [s_lv_a (by omega) ha (by omega)]; exact h.1 w hw
  · rw [show 35 + 4 * a = 32 + 4 * a + 3 by omega, s_lv_a (by omega) ha (by omega), show 32 + 4 * a + 3 = 35 + 4 * a by omega]; exact h.2.1
  · rw [s_lv_t (by omega) hj]
    unfold s_shf
    by_cases q : i ≤ j ∧ j < n - 1
    · rw [if_pos q]; exact h.2.2 (j + 1) (by omega)
    · rw [if_neg q]; exact h.2.2 j hj
theorem zTA_lv {G G1 : zG} {r : Nat → Int32} {n a t i : Nat} (h : zTA G t r a n) (ha : a < 5) (hn : n ≤ 10) (hm : G1 (t + 1) 0 = nI (n - 1)) (hk : ∀ j, j < 10 → G1 (t + 2) j = s_shf (G (t + 2)) i (n - 1) j ∧ G1 (t + 3) j = s_shf (G (t + 3)) i (n - 1) j ∧ G1 (t + 4) j = s_shf (G (t + 4)) i (n - 1) j) (h6 : G1 (t + 6) = G (t + 6)) (h7 : ∀ j, j < 10 → G1 (t + 7) j = s_shf (G (t + 7)) i (n - 1) j) : zTA G1 t (s_lv r a i (n - 1)) a (n - 1) := by
  have sc : ∀ (F g : Nat → Int32), (∀ j, j < 10 → F j = g j) → ∀ j, j < 10 → s_shf F i (n - 1) j = s_shf g i (n - 1) j := fun F g hF j hj => by
    unfold s_shf
    by_cases q : i ≤ j ∧ j < n - 1
    · rw [if_pos q, if_pos q]; exact hF (j + 1) (by omega)
    · rw [if_neg q, if_neg q]; exact hF j hj
  refine ⟨hm, fun j hj => ⟨?_, ?_, ?_⟩, fun w hw => ?_, fun j hj => ?_⟩
  · rw [(hk j hj).1, show 2 + 3 * j = 2 + 3 * j + 0 by omega, s_lv_k (by decide) hj]
    exact sc _ _ (fun x hx => (h.2.1 x hx).1) j hj
  · rw [(hk j hj).2.1, show 3 + 3 * j = 2 + 3 * j + 1 by omega, s_lv_k (by decide) hj]
    exact sc _ _ (fun x hx => by rw [(h.2.1 x hx).2.1, show 3 + 3 * x = 2 + 3 * x + 1 by omega]) j hj
  · rw [(hk j hj).2.2, show 4 + 3 * j = 2 + 3 * j + 2 by omega, s_lv_k (by decide) hj]
    exact sc _ _ (fun x hx => by rw [(h.2.1 x hx).2.2, show 4 + 3 * x = 2 + 3 * x + 2 by omega]) j hj
  · rw [h6, s_lv_a (by omega) ha hw]; exact h.2.2.1 w hw
  · rw [h7 j hj, s_lv_t (by omega) hj]
    exact sc _ _ (fun x hx => h.2.2.2 x hx) j hj
/-- the least of v 0 .. v (i - 1), and its place; none: -9 -/
def b_min (v : Nat → Int32) : Nat → Int32 × Int32
  | 0 => (1000000000, -9)
  | i + 1 => if v i < (b_min v i).1 then (v i, nI i) else b_min v i
theorem b_min_y {v : Nat → Int32} {i : Nat} {b z : Int32} (h : (b, z) = b_min v i) (hv : v i < b) : (v i, nI i) = b_min v (i + 1) := by
  show _ = if v i < (b_min v i).1 then _ else _
  rw [← h, if_pos hv]
theorem b_min_n {v : Nat → Int32} {i : Nat} {b z : Int32} (h : (b, z) = b_min v i) (hv : ¬ v i < b) : (b, z) = b_min v (i + 1) := by
  show _ = if v i < (b_min v i).1 then _ else _
  rw [← h, if_neg hv]
/-- the same without a number beyond all -/
def c_min (v : Nat → Int32) : Nat → Int32 × Int32
  | 0 => (0, -9)
  | i + 1 => if (c_min v i).2 = -9 ∨ v i < (c_min v i).1 then (v i, nI i) else c_min v i
theorem c_min_y {v : Nat → Int32} {i : Nat} {b z : Int32} (h : (b, z) = c_min v i) (hv : z = -9 ∨ v i < b) : (v i, nI i) = c_min v (i + 1) := by
  show _ = if _ then _ else _
  rw [← h, if_pos hv]
theorem c_min_n {v : Nat → Int32} {i : Nat} {b z : Int32} (h : (b, z) = c_min v i) (hv : ¬ (z = -9 ∨ v i < b)) : (b, z) = c_min v (i + 1) := by
  show _ = if _ then _ else _
  rw [← h, if_neg hv]
theorem c_b_min {v : Nat → Int32} : ∀ {i : Nat}, i ≤ 10 → (∀ j, j < i → ∃ s : Nat, s ≤ 4000 ∧ v j = nI s) → (0 < i → c_min v i = b_min v i ∧ ∃ k s : Nat, k < 10 ∧ s ≤ 4000 ∧ b_min v i = (nI s, nI k))
  | 0, _, _ => fun h => absurd h (Nat.lt_irrefl 0)
  | i + 1, hi, hv => fun _ => by
    obtain ⟨s, hs, e⟩ := hv i (Nat.lt_succ_self i)
    rcases Nat.eq_zero_or_pos i with h0 | h0
    · subst h0
      have q : v 0 < (b_min v 0).1 := by
        rw [e]
        exact Int32.lt_of_le_of_lt (nI_le hs (by decide)) (show nI 4000 < (1000000000 : Int32) by decide)
      refine ⟨?_, 0, s, by decide, hs, ?_⟩
      · show (if _ then _ else _) = (if _ then _ else _)
        have q0 : (c_min v 0).2 = -9 ∨ v 0 < (c_min v 0).1 := Or.inl rfl
        rw [if_pos q0, if_pos q]
      · show (if _ then _ else _) = _
        rw [if_pos q, e]
    · obtain ⟨h1, k, t, hk, ht, h2⟩ := c_b_min (v := v) (i := i) (by omega) (fun j hj => hv j (by omega)) h0
      have n9 : ¬ (c_min v i).2 = -9 := by
        rw [h1, h2]
        show ¬ nI k = -9
        intro q
        have := nI_pos' (n := k) (by omega)
        rw [q] at this
        exact absurd this (by decide)
      have h3 : c_min v (i + 1) = b_min v (i + 1) := by
        show (if _ then _ else _) = (if _ then _ else _)
        by_cases q : v i < (b_min v i).1
        · rw [if_pos (Or.inr (by rw [h1]; exact q)), if_pos q]
        · rw [if_neg (fun z => z.elim n9 (fun y => q (by rw [← h1]; exact y))), if_neg q, h1]
      refine ⟨h3, ?_⟩
      have e9 : b_min v (i + 1) = if v i < (b_min v i).1 then (v i, nI i) else b_min v i := rfl
      rw [e9]
      by_cases q : v i < (b_min v i).1
      · exact ⟨i, s, by omega, hs, by rw [if_pos q, e]⟩
      · exact ⟨k, t, hk, ht, by rw [if_neg q, h2]⟩
def q_lv (r : Nat → Int32) (n a i : Nat) : Int32 := (m_run (s_lv r a i (n - 1)) a (-1) (n - 1)).2
def A_leave (r : Nat → Int32) (n na : Nat) (a w : Int32) : Int32 × Nat :=
  if zin a na = false then (-1, 1) else if w < 0 ∨ 1 < w then (-2, 2) else if w = 0 ∨ (b_min (q_lv r n (zix a)) n).2 < 0 then ((b_min (q_lv r n (zix a)) n).2, 0) else ((b_min (q_lv r n (zix a)) n).1, 0)
theorem c_min_end {v : Nat → Int32} {n : Nat} {b z : Int32} (hn : n ≤ 10) (hv : ∀ j, j < n → ∃ s : Nat, s ≤ 4000 ∧ v j = nI s) (h : (b, z) = c_min v n) : (b_min v n).2 = z ∧ (z = -9 → z < 0) ∧ (¬ z = -9 → ¬ z < 0 ∧ (b_min v n).1 = b) := by
  refine ⟨?_, fun q => by rw [q]; decide, fun q => ?_⟩
  · rcases Nat.eq_zero_or_pos n with h0 | h0
    · subst h0
      exact (congrArg Prod.snd h).symm
    · rw [← (c_b_min hn hv h0).1, ← h]
  · rcases Nat.eq_zero_or_pos n with h0 | h0
    · subst h0
      exact absurd (congrArg Prod.snd h) q
    · obtain ⟨e, k, s, hk, _, e2⟩ := c_b_min hn hv h0
      rw [e] at h
      refine ⟨?_, by rw [← h]⟩
      have e3 : z = nI k := by
        rw [e2] at h
        exact congrArg Prod.snd h
      rw [e3]
      exact nI_pos (by omega)
theorem b_min_end {v : Nat → Int32} {n i : Nat} {b z : Int32} (h : (b, z) = b_min v i) (hi : i = n) : (b_min v n).2 = z ∧ (b_min v n).1 = b := by
  subst hi
  rw [← h]
  exact ⟨rfl, rfl⟩
theorem q_lv_b {r : Nat → Int32} {n na a : Nat} (hV : zVr r n na) (ha : a < na) (hna : na ≤ 5) (hn : n ≤ 10) : ∀ j, j < n → ∃ s : Nat, s ≤ 4000 ∧ q_lv r n a j = nI s := fun j _ => fin_b (zVs_lv hV.1 hn) (zVa_lv (hV.2 a ha) (by omega) hn) (by omega)
theorem s_lv_0 {g r : Nat → Int32} {n a i : Nat} (h : ∀ j, j < 102 → g j = r j) (h0 : r 0 = nI n) (hn : 1 ≤ n) : ∀ j, j < 102 → upd g 0 (nI (n - 1)) j = s_lv r a i i j := fun j hj => by
  unfold s_lv
  by_cases e : j = 0
  · subst e
    rw [pk_us, if_pos rfl, h0, show (1 : Int32) = nI 1 from rfl, pk_sub hn]
  · rw [pk_un e, if_neg e, if_neg (by omega), if_neg (by omega)]
    exact h j hj
theorem s_lv_n {r : Nat → Int32} {n a i K : Nat} (h0 : r 0 = nI n) (hn : 1 ≤ n) : s_lv r a i K 0 = nI (n - 1) := by
  unfold s_lv
  rw [if_pos rfl, h0, show (1 : Int32) = nI 1 from rfl, pk_sub hn]
theorem s_lv_st {f r : Nat → Int32} {a i k : Nat} (hik : i ≤ k) (hk : k < 9) (ha : a < 5) (h : ∀ j, j < 102 → f j = s_lv r a i k j) : ∀ j, j < 102 → upd (upd (upd (upd f (2 + 3 * k) (r (2 + 3 * (k + 1)))) (3 + 3 * k) (r (3 + 3 * (k + 1)))) (4 + 3 * k) (r (4 + 3 * (k + 1)))) (52 + 10 * a + k) (r (52 + 10 * a + (k + 1))) j = s_lv r a i (k + 1) j := fun j hj => by
  by_cases e : j = 52 + 10 * a + k
  · subst e
    rw [pk_us, s_lv, if_neg (by omega), if_neg (by omega), if_pos (by omega)]
    exact congrArg r (by omega)
  rw [pk_un e]
  by_cases e2 : j = 4 + 3 * k
  · subst e2
    rw [pk_us, s_lv, if_neg (by omega), if_pos (by omega)]
    exact congrArg r (by omega)
  rw [pk_un e2]
  by_cases e3 : j = 3 + 3 * k
  · subst e3
    rw [pk_us, s_lv, if_neg (by omega), if_pos (by omega)]
    exact congrArg r (by omega)
  rw [pk_un e3]
  by_cases e4 : j = 2 + 3 * k
  · subst e4
    rw [pk_us, s_lv, if_neg (by omega), if_pos (by omega)]
    exact congrArg r (by omega)
  rw [pk_un e4, h j hj]
  unfold s_lv
  by_cases z : j = 0
  · rw [if_pos z, if_pos z]
  · rw [if_neg z, if_neg z]
    by_cases c : 2 + 3 * i ≤ j ∧ j < 2 + 3 * k
    · rw [if_pos c, if_pos (show 2 + 3 * i ≤ j ∧ j < 2 + 3 * (k + 1) by omega)]
    · have c3 : ¬ (2 + 3 * i ≤ j ∧ j < 2 + 3 * (k + 1)) := by omega
      rw [if_neg c, if_neg c3]
      by_cases c2 : 52 + 10 * a + i ≤ j ∧ j < 52 + 10 * a + k
      · rw [if_pos c2, if_pos (show 52 + 10 * a + i ≤ j ∧ j < 52 + 10 * a + (k + 1) by omega)]
      · rw [if_neg c2, if_neg (show ¬ (52 + 10 * a + i ≤ j ∧ j < 52 + 10 * a + (k + 1)) by omega)]
theorem q_lv_c {f r : Nat → Int32} {n a i k : Nat} (h : ∀ j, j < 102 → f j = s_lv r a i k j) (hk : k = n - 1) (ha : a < 5) (hn : n ≤ 10) : (m_run f a (-1) (n - 1)).2 = q_lv r n a i := by
  subst hk
  unfold q_lv
  rw [m_run_c h ha (n - 1) (by omega)]
