/-! WHAT THE RACE ANSWERS, as functions of rows -/
/-- 1, 0: a RIDE, a HILL, WIND -/
def s_isRide (k : Int32) : Int32 := if k = 2 ∨ k = 3 ∨ k = 4 then 1 else 0
def s_takes (k : Int32) : Int32 := if k = 0 ∨ k = 1 then 1 else if k = 2 ∨ k = 4 ∨ k = 5 then 2 else if k = 3 then 3 else 0
/-- SECONDS by TRIES t at LEGS g, u without -/
def s_sec (u t g : Int32) : Int32 := if 0 < g then u - u * t / 10 else u + u / 4
def s_left (k n t g : Int32) : Int32 := if 0 < g then (if 0 < g - s_takes k * n * t then g - s_takes k * n * t else 0) else 0
def s_leg (k n t g : Int32) : Int32 := if k = 6 then (if s_left k n t g + 5 < 99 then s_left k n t g + 5 else 99) else s_left k n t g
/-- SECONDS of section i with TRIES 0 -/
def s_plain (kd fg ln ab : Nat → Int32) (i : Nat) : Int32 :=
  if kd i = 0 then ln i * (20 - ab 0)
  else if kd i = 1 then ln i * (20 - ab 0 - fg i)
  else if kd i = 2 then ln i * (20 - ab 1)
  else if kd i = 3 then ln i * (20 - ab 1 + fg i)
  else if kd i = 4 then ln i * (20 - ab 1 + fg i / 2)
  else if kd i = 5 then ln i * (22 - ab 2) + (if 0 < i ∧ s_isRide (kd (i - 1)) = 1 then ln i + fg i else 0)
  else 10 + 5 * fg i
/-- LEGS and all SECONDS behind the first i sections (d: the section behind which 20 LEGS come) -/
def s_run (kd fg ln ab tr : Nat → Int32) (d : Int32) : Nat → Int32 × Int32
  | 0 => (ab 3, 0)
  | i + 1 =>
    let p := s_run kd fg ln ab tr d i
    let g := s_leg (kd i) (ln i) (tr i) p.1
    (if nI i = d then (if g + 20 < 99 then g + 20 else 99) else g, p.2 + s_sec (s_plain kd fg ln ab i) (tr i) p.1)
/-- SECONDS of section i -/
def s_sc (kd fg ln ab tr : Nat → Int32) (d : Int32) (i : Nat) : Int32 := s_sec (s_plain kd fg ln ab i) (tr i) (s_run kd fg ln ab tr d i).1
theorem s_plain_c {a b c d a2 b2 c2 d2 : Nat → Int32} {i : Nat} (h1 : a = a2) (h2 : b = b2) (h3 : c = c2) (h4 : d = d2) : s_plain a b c d i = s_plain a2 b2 c2 d2 i := by rw [h1, h2, h3, h4]
/-- a trial's own run -/
def zt_run (G : zG) (t i : Nat) : Int32 × Int32 := s_run (G (t + 2)) (G (t + 3)) (G (t + 4)) (G (t + 6)) (G (t + 7)) (G t 2) i
def zt_sc (G : zG) (t i : Nat) : Int32 := s_sc (G (t + 2)) (G (t + 3)) (G (t + 4)) (G (t + 6)) (G (t + 7)) (G t 2) i
theorem g1_e (G : zG) (k : Nat) : g1 G k (G k) = G := by
  funext j
  unfold g1
  split
  · rename_i h
    rw [h]
  · rfl
theorem z_has1 {i : Int32} {n : Nat} (hn : n < 2 ^ 31) (h1 : ¬ i < 0) (h2 : ¬ nI n ≤ i) : ∃ j : Nat, j < n ∧ i = nI j := by
  rcases pk_ix i hn with h | h | h
  · exact absurd h h1
  · exact absurd h h2
  · exact h
theorem z_has0 {i : Int32} {n : Nat} (hn : n < 2 ^ 31) (h : i < 0 ∨ nI n ≤ i) : ¬ ∃ j : Nat, j < n ∧ i = nI j := by
  rintro ⟨j, hj, rfl⟩
  rcases h with h | h
  · exact nI_pos (by omega) h
  · exact nI_ge hj hn h
