/-! changes of the race, on both sides -/
/-- f with its numbers at i and j changed about -/
def s_sw (f : Nat → Int32) (i j : Nat) : Nat → Int32 := upd (upd f i (f j)) j (f i)
/-- SECTIONS i and j change places, their first k numbers -/
def s_chg (r : Nat → Int32) (i j : Nat) : Nat → Nat → Int32
  | 0 => r
  | k + 1 => s_sw (s_chg r i j k) (2 + 3 * i + k) (2 + 3 * j + k)
theorem s_sw_i {f : Nat → Int32} {i j : Nat} (h : i ≠ j) : s_sw f i j i = f j := by
  unfold s_sw
  rw [pk_un h, pk_us]
theorem s_sw_j {f : Nat → Int32} {i j : Nat} : s_sw f i j j = f i := pk_us
theorem s_sw_n {f : Nat → Int32} {i j x : Nat} (h : x ≠ i) (h2 : x ≠ j) : s_sw f i j x = f x := by
  unfold s_sw
  rw [pk_un h2, pk_un h]
theorem s_chg_lo {r : Nat → Int32} {i j : Nat} : ∀ k x, x < 2 → s_chg r i j k x = r x
  | 0, _, _ => rfl
  | k + 1, x, h => by
    show s_sw _ _ _ _ = _
    rw [s_sw_n (by omega) (by omega)]
    exact s_chg_lo k x h
theorem s_chg_hi {r : Nat → Int32} {i j : Nat} (hi : i < 10) (hj : j < 10) : ∀ k x, k ≤ 3 → 32 ≤ x → s_chg r i j k x = r x
  | 0, _, _, _ => rfl
  | k + 1, x, h, h2 => by
    show s_sw _ _ _ _ = _
    rw [s_sw_n (by omega) (by omega)]
    exact s_chg_hi hi hj k x (by omega) h2
/-- not yet changed -/
theorem s_chg_up {r : Nat → Int32} {i j x c : Nat} (hc : c < 3) : ∀ k, k ≤ c → s_chg r i j k (2 + 3 * x + c) = r (2 + 3 * x + c)
  | 0, _ => rfl
  | k + 1, h => by
    show s_sw _ _ _ _ = _
    rw [s_sw_n (by omega) (by omega)]
    exact s_chg_up hc k (by omega)
theorem s_chg_at {r : Nat → Int32} {i j x c : Nat} (hij : i ≠ j) (hc : c < 3) : ∀ k, k ≤ 3 → c < k → s_chg r i j k (2 + 3 * x + c) = if x = i then r (2 + 3 * j + c) else if x = j then r (2 + 3 * i + c) else r (2 + 3 * x + c)
  | 0, _, h => absurd h (Nat.not_lt_zero _)
  | k + 1, hk, h => by
    show s_sw _ _ _ _ = _
    rcases Nat.lt_or_ge c k with q | q
    · rw [s_sw_n (by omega) (by omega)]
      exact s_chg_at hij hc k (by omega) q
    · have e : c = k := by omega
      subst e
      by_cases h1 : x = i
      · subst h1
        rw [if_pos rfl, s_sw_i (by omega)]
        exact s_chg_up hc c (Nat.le_refl _)
      · by_cases h2 : x = j
        · subst h2
          rw [if_neg h1, if_pos rfl, s_sw_j]
          exact s_chg_up hc c (Nat.le_refl _)
        · rw [if_neg h1, if_neg h2, s_sw_n (by omega) (by omega)]
          exact s_chg_up hc c (Nat.le_refl _)
theorem s_sw_if {f : Nat → Int32} {i j x : Nat} (hij : i ≠ j) : s_sw f i j x = if x = i then f j else if x = j then f i else f x := by
  by_cases h1 : x = i
  · subst h1
    rw [if_pos rfl, s_sw_i hij]
  · by_cases h2 : x = j
    · subst h2
      rw [if_neg h1, if_pos rfl, s_sw_j]
    · rw [if_neg h1, if_neg h2, s_sw_n h1 h2]
theorem zFA_47 {G : zG} {f : Nat → Int32} {r : Nat → Int32} {n na : Nat} (h : zFA G 1 r n na) (hna : na ≤ 5) : zFA (g1 G 47 f) 1 r n na := by
  refine ⟨?_, ?_, ?_, ?_⟩
  · rw [g1_n (by decide)]; exact h.1
  · rw [g1_n (by decide)]; exact h.2.1
  · intro j hj
    rw [g1_n (by decide), g1_n (by decide), g1_n (by decide)]
    exact h.2.2.1 j hj
  · intro a ha
    have h4 := h.2.2.2 a ha
    refine ⟨fun w hw => ?_, fun j hj => ?_⟩
    · rw [g1_n (by omega)]; exact h4.1 w hw
    · rw [g1_n (by omega)]; exact h4.2 j hj
theorem zFA_turn {G : zG} {r : Nat → Int32} {n na i : Nat} {kd fg : Int32} (h : zFA G 1 r n na) (hna : na ≤ 5) (hi : i < 10) : zFA (g1 (g1 G 3 (upd (G 3) i kd)) 4 (upd (G 4) i fg)) 1 (upd (upd r (2 + 3 * i) kd) (3 + 3 * i) fg) n na := by
  refine ⟨?_, ?_, ?_, ?_⟩
  · rw [g1_n (by decide), g1_n (by decide)]; exact h.1
  · rw [g1_n (by decide), g1_n (by decide)]; exact h.2.1
  · intro j hj
    obtain ⟨h1, h2, h3⟩ := h.2.2.1 j hj
    refine ⟨?_, ?_, ?_⟩
    · rw [g1_n (by decide), g1_s, pk_un (show 2 + 3 * j ≠ 3 + 3 * i by omega)]
      by_cases e : j = i
      · subst e
        rw [pk_us, pk_us]
      · rw [pk_un e, pk_un (by omega)]
        exact h1
    · rw [g1_s]
      by_cases e : j = i
      · subst e
        rw [pk_us, pk_us]
      · rw [pk_un e, pk_un (by omega), pk_un (by omega)]
        exact h2
    · rw [g1_n (by decide), g1_n (by decide), pk_un (by omega), pk_un (by omega)]
      exact h3
  · intro a ha
    have h4 := h.2.2.2 a ha
    refine ⟨fun w hw => ?_, fun j hj => ?_⟩
    · rw [g1_n (by omega), g1_n (by omega), pk_un (by omega), pk_un (by omega)]; exact h4.1 w hw
    · rw [g1_n (by omega), g1_n (by omega), pk_un (by omega), pk_un (by omega)]; exact h4.2 j hj
theorem zFA_swap {G : zG} {r : Nat → Int32} {n na i k : Nat} (h : zFA G 1 r n na) (hna : na ≤ 5) (hi : i < 10) (hk : k < 10) (hik : i ≠ k) : zFA (g1 (g1 (g1 G 3 (s_sw (G 3) i k)) 4 (s_sw (G 4) i k)) 5 (s_sw (G 5) i k)) 1 (s_chg r i k 3) n na := by
  have hx : ∀ (o : Nat), o < 3 → ∀ (F : Nat → Int32), (∀ j, j < 10 → F j = r (2 + 3 * j + o)) → ∀ j, j < 10 → s_sw F i k j = s_chg r i k 3 (2 + 3 * j + o) := fun o ho F hF j hj => by
    rw [s_chg_at hik ho 3 (Nat.le_refl _) ho, s_sw_if hik]
    split
    · exact hF k hk
    · split
      · exact hF i hi
      · exact hF j hj
  refine ⟨?_, ?_, ?_, ?_⟩
  · rw [g1_n (by decide), g1_n (by decide), g1_n (by decide)]; exact h.1
  · rw [g1_n (by decide), g1_n (by decide), g1_n (by decide)]; exact h.2.1
  · intro j hj
    refine ⟨?_, ?_, ?_⟩
    · rw [g1_n (by decide), g1_n (by decide), g1_s]
      exact hx 0 (by decide) _ (fun j hj => (h.2.2.1 j hj).1) j hj
    · rw [g1_n (by decide), g1_s, show 3 + 3 * j = 2 + 3 * j + 1 by omega]
      exact hx 1 (by decide) _ (fun j hj => (h.2.2.1 j hj).2.1.trans (congrArg r (by omega))) j hj
    · rw [g1_s, show 4 + 3 * j = 2 + 3 * j + 2 by omega]
      exact hx 2 (by decide) _ (fun j hj => (h.2.2.1 j hj).2.2.trans (congrArg r (by omega))) j hj
  · intro a ha
    have h4 := h.2.2.2 a ha
    refine ⟨fun w hw => ?_, fun j hj => ?_⟩
    · rw [g1_n (by omega), g1_n (by omega), g1_n (by omega), s_chg_hi hi hk 3 _ (Nat.le_refl _) (by omega)]; exact h4.1 w hw
    · rw [g1_n (by omega), g1_n (by omega), g1_n (by omega), s_chg_hi hi hk 3 _ (Nat.le_refl _) (by omega)]; exact h4.2 j hj
theorem zFA_skill {G : zG} {r : Nat → Int32} {n na i w c : Nat} {v : Int32} (h : zFA G 1 r n na) (hc : c = 1 + 5 + 1 + 3 * i) (hna : na ≤ 5) (hi : i < na) (hw : w < 4) : zFA (g1 G (c + 1) (upd (G (c + 1)) w v)) 1 (upd r (32 + 4 * i + w) v) n na := by
  refine ⟨?_, ?_, ?_, ?_⟩
  · rw [g1_n (by omega)]; exact h.1
  · rw [g1_n (by omega)]; exact h.2.1
  · intro j hj
    rw [g1_n (by omega), g1_n (by omega), g1_n (by omega), pk_un (by omega), pk_un (by omega), pk_un (by omega)]
    exact h.2.2.1 j hj
  · intro a ha
    have h4 := h.2.2.2 a ha
    refine ⟨fun x hx => ?_, fun j hj => ?_⟩
    · by_cases e : a = i
      · subst e
        rw [show 1 + 7 + 3 * a = c + 1 by omega, g1_s]
        by_cases e2 : x = w
        · subst e2
          rw [pk_us, pk_us]
        · rw [pk_un e2, pk_un (by omega), show c + 1 = 1 + 7 + 3 * a by omega]
          exact h4.1 x hx
      · rw [g1_n (by omega), pk_un (by omega)]
        exact h4.1 x hx
    · rw [g1_n (by omega), pk_un (by omega)]
      exact h4.2 j hj
theorem zFA_tries {G : zG} {r : Nat → Int32} {n na i w c : Nat} {v : Int32} (h : zFA G 1 r n na) (hc : c = 1 + 5 + 1 + 3 * i) (hna : na ≤ 5) (hi : i < na) (hw : w < 10) : zFA (g1 G (c + 2) (upd (G (c + 2)) w v)) 1 (upd r (52 + 10 * i + w) v) n na := by
  refine ⟨?_, ?_, ?_, ?_⟩
  · rw [g1_n (by omega)]; exact h.1
  · rw [g1_n (by omega)]; exact h.2.1
  · intro j hj
    rw [g1_n (by omega), g1_n (by omega), g1_n (by omega), pk_un (by omega), pk_un (by omega), pk_un (by omega)]
    exact h.2.2.1 j hj
  · intro a ha
    have h4 := h.2.2.2 a ha
    refine ⟨fun x hx => ?_, fun j hj => ?_⟩
    · rw [g1_n (by omega), pk_un (by omega)]
      exact h4.1 x hx
    · by_cases e : a = i
      · subst e
        rw [show 1 + 8 + 3 * a = c + 2 by omega, g1_s]
        by_cases e2 : j = w
        · subst e2
          rw [pk_us, pk_us]
        · rw [pk_un e2, pk_un (by omega), show c + 2 = 1 + 8 + 3 * a by omega]
          exact h4.2 j hj
      · rw [g1_n (by omega), pk_un (by omega)]
        exact h4.2 j hj
/-- a change by the class: its answer, which refusal, the race behind it -/
def zUc (A : Int32 × Nat × (Nat → Int32)) (n na : Nat) (G : zG) (r : Int32) (G1 : zG) : Prop := A.1 = r ∧ (∀ k, (k = 0 ∨ (21 < k ∧ k < 47) ∨ 91 < k) → G1 k = G k) ∧ zFA G1 1 A.2.2 n na ∧ G1 47 = zrf (G 47) A.2.1 ∧ zPl G1
theorem zUc_of {A : Int32 × Nat × (Nat → Int32)} {n na : Nat} {G G1 : zG} {v : Int32} {k : Nat} {q : Nat → Int32} (hA : A = (v, k, q)) (hz : zFA G1 1 q n na) (hF : ∀ k, (k = 0 ∨ (21 < k ∧ k < 47) ∨ 91 < k) → G1 k = G k) (hk : G1 47 = zrf (G 47) k) (hp : zPl G1) : zUc A n na G v G1 := by
  subst hA
  exact ⟨rfl, hF, hz, hk, hp⟩
def zUm (A : Int32 × Nat × (Nat → Int32)) (G : zG) (r : Int32) (G1 : zG) : Prop := A.1 = r ∧ (∀ k, (k < 93 ∨ (95 ≤ k ∧ k ≤ 98)) → G1 k = G k) ∧ G1 93 = A.2.2 ∧ G1 99 = zrf (G 99) A.2.1
theorem zUm_of {A : Int32 × Nat × (Nat → Int32)} {G G1 : zG} {v : Int32} {k : Nat} {q : Nat → Int32} (hA : A = (v, k, q)) (hz : G1 93 = q) (hF : ∀ k, (k < 93 ∨ (95 ≤ k ∧ k ≤ 98)) → G1 k = G k) (hk : G1 99 = zrf (G 99) k) : zUm A G v G1 := by
  subst hA
  exact ⟨rfl, hF, hz, hk⟩
def U_turn (r : Nat → Int32) (n : Nat) (i k f : Int32) : Int32 × Nat × (Nat → Int32) :=
  if zin i n = false then (-1, 1, r) else if k < 0 ∨ 6 < k then (-2, 2, r) else if f < 0 then (-4, 4, r) else if 9 < f then (-6, 6, r)
  else (10 * r (2 + 3 * zix i) + r (3 + 3 * zix i), 0, upd (upd r (2 + 3 * zix i) k) (3 + 3 * zix i) f)
def U_swap (r : Nat → Int32) (n : Nat) (i j : Int32) : Int32 × Nat × (Nat → Int32) :=
  if zin i n = false ∨ zin j n = false ∨ i = j then (-1, 1, r) else (nI n, 0, s_chg r (zix i) (zix j) 3)
def U_skill (r : Nat → Int32) (na : Nat) (i w v : Int32) : Int32 × Nat × (Nat → Int32) :=
  if zin i na = false then (-1, 1, r) else if w < 0 ∨ 3 < w then (-2, 2, r) else if v < 0 then (-4, 4, r) else if (if w = 3 then 99 else 9) < v then (-6, 6, r)
  else (r (32 + 4 * zix i + zix w), 0, upd r (32 + 4 * zix i + zix w) v)
def U_tryHard (r : Nat → Int32) (n na : Nat) (a i v : Int32) : Int32 × Nat × (Nat → Int32) :=
  if zin a na = false ∨ zin i n = false then (-1, 1, r) else if v < 0 then (-4, 4, r) else if 3 < v then (-6, 6, r)
  else (r (52 + 10 * zix a + zix i), 0, upd r (52 + 10 * zix a + zix i) v)
theorem z_67 {k : Int32} (h : k < 7) : ¬ 6 < k := fun q => by
  have a := Int32.lt_iff_toInt_lt.mp h
  have b := Int32.lt_iff_toInt_lt.mp q
  have e7 : (7 : Int32).toInt = 7 := by decide
  have e6 : (6 : Int32).toInt = 6 := by decide
  omega
theorem z_67n {k : Int32} (h : ¬ k < 7) : 6 < k := Int32.lt_iff_toInt_lt.mpr (by
  have a : ¬ k.toInt < (7 : Int32).toInt := fun q => h (Int32.lt_iff_toInt_lt.mpr q)
  have e7 : (7 : Int32).toInt = 7 := by decide
  have e6 : (6 : Int32).toInt = 6 := by decide
  omega)
theorem z_34 {v : Int32} (h : v < 4) : ¬ 3 < v := fun q => by
  have a := Int32.lt_iff_toInt_lt.mp h
  have b := Int32.lt_iff_toInt_lt.mp q
  have e7 : (4 : Int32).toInt = 4 := by decide
  have e6 : (3 : Int32).toInt = 3 := by decide
  omega
theorem z_34n {v : Int32} (h : ¬ v < 4) : 3 < v := Int32.lt_iff_toInt_lt.mpr (by
  have a : ¬ v.toInt < (4 : Int32).toInt := fun q => h (Int32.lt_iff_toInt_lt.mpr q)
  have e7 : (4 : Int32).toInt = 4 := by decide
  have e6 : (3 : Int32).toInt = 3 := by decide
  omega)
