/-! counts, the row of numbers, the image -/
def s_acc (f : Nat → Int32) (x : Int32) : Nat → Int32
  | 0 => x
  | k + 1 => s_acc f x k + f k
def s_tot (f : Nat → Nat → Int32) (n : Nat) : Nat → Int32
  | 0 => 0
  | a + 1 => s_acc (f a) (s_tot f n a) n
def q_rides (r : Nat → Int32) (n : Nat) : Nat := s_cnt (fun i => decide (s_isRide (r (2 + 3 * i)) = 1)) n
def q_chgs (r : Nat → Int32) (n : Nat) : Nat := s_cnt (fun i => decide (r (2 + 3 * i) = 6)) n
def q_len (r : Nat → Int32) (n : Nat) : Int32 := s_acc (fun i => r (4 + 3 * i)) 0 n
def q_allt (r : Nat → Int32) (n na : Nat) : Int32 := s_tot (fun a i => r (52 + 10 * a + i)) n na
theorem q_rides_le (r : Nat → Int32) (n : Nat) : q_rides r n ≤ n := s_cnt_le _ _
def z_rfi (w : Int32) : Bool := decide (11 ≤ w ∧ w ≤ 16)
theorem z_rfi_lo {w : Int32} (h : w < 11) : z_rfi w = false := decide_eq_false fun q => Int32.not_le.mpr h q.1
theorem z_rfi_hi {w : Int32} (h : w > 16) : z_rfi w = false := decide_eq_false fun q => Int32.not_le.mpr h q.2
theorem z_rfi_no {w : Int32} (h : ¬ (11 ≤ w ∧ w ≤ 16)) : z_rfi w = false := decide_eq_false h
theorem z_1116 {w : Int32} (h1 : 11 ≤ w) (h2 : w ≤ 16) : ∃ j : Nat, (11 ≤ j ∧ j ≤ 16) ∧ w = nI j := by
  have h0 : ¬ w < 0 := fun q => Int32.not_le.mpr (Int32.lt_of_lt_of_le q (by decide : (0 : Int32) ≤ 11)) h1
  obtain ⟨j, hj, rfl⟩ := z_rng (m := 17) h0 h2 rfl (by decide)
  refine ⟨j, ⟨?_, by omega⟩, rfl⟩
  rcases Nat.lt_or_ge j 11 with q | q
  · exact absurd h1 (Int32.not_le.mpr (nI_lt (by omega) (by decide)))
  · exact q
/-- counts: f REFUSALS, m in the ROW, k letters -/
def A_count (r : Nat → Int32) (n na : Nat) (f : Nat → Int32) (m k w : Int32) : Int32 × Nat :=
  if w = 0 then (nI n, 0) else if w = 1 then (nI na, 0) else if w = 2 then (q_len r n, 0) else if w = 3 then (nI (q_chgs r n), 0) else if w = 4 then (nI (q_rides r n), 0) else if w = 5 then (q_allt r n na, 0) else if w = 6 then (m, 0) else if w = 7 then (k, 0) else if z_rfi w = true then (f (zix w - 10), 0) else (-9, 0)
theorem nI_ne {j k : Nat} (hj : j < 2 ^ 31) (hk : k < 2 ^ 31) (h : j ≠ k) : ¬ nI j = nI k := fun q => h ((nI_eq hj hk).mp q)
theorem A_count_r {r : Nat → Int32} {n na j : Nat} {f : Nat → Int32} {m k : Int32} (h1 : 11 ≤ j) (h2 : j ≤ 16) : A_count r n na f m k (nI j) = (f (j - 10), 0) := by
  have e : z_rfi (nI j) = true := decide_eq_true ⟨nI_le h1 (by omega), nI_le h2 (by decide)⟩
  have a0 : ¬ nI j = 0 := nI_ne (k := 0) (by omega) (by decide) (by omega)
  have a1 : ¬ nI j = 1 := nI_ne (k := 1) (by omega) (by decide) (by omega)
  have a2 : ¬ nI j = 2 := nI_ne (k := 2) (by omega) (by decide) (by omega)
  have a3 : ¬ nI j = 3 := nI_ne (k := 3) (by omega) (by decide) (by omega)
  have a4 : ¬ nI j = 4 := nI_ne (k := 4) (by omega) (by decide) (by omega)
  have a5 : ¬ nI j = 5 := nI_ne (k := 5) (by omega) (by decide) (by omega)
  have a6 : ¬ nI j = 6 := nI_ne (k := 6) (by omega) (by decide) (by omega)
  have a7 : ¬ nI j = 7 := nI_ne (k := 7) (by omega) (by decide) (by omega)
  unfold A_count
  rw [if_neg a0, if_neg a1, if_neg a2, if_neg a3, if_neg a4, if_neg a5, if_neg a6, if_neg a7, if_pos e, zix_n (by omega)]
/-- the first number of the row w that is not v -/
def q_un (w v : Nat → Int32) (n m : Nat) : Int32 := s_first9 (s_fst (fun k => decide (n ≤ k ∨ ¬ w k = v k)) m) m
theorem q_un_c {w v w2 v2 : Nat → Int32} {n m : Nat} (hw : w = w2) (h : ∀ k, k < n → v k = v2 k) : q_un w v n m = q_un w2 v2 n m := by
  unfold q_un
  refine congrArg (fun z => s_first9 z m) (s_fst_c fun k _ => ?_)
  subst hw
  rcases Nat.lt_or_ge k n with q | q
  · simp [h k q]
  · simp [q]
theorem q_un_y {w v : Nat → Int32} {n m i : Nat} (hf : s_fst (fun k => decide (n ≤ k ∨ ¬ w k = v k)) i = i) (hi : i < m) (h : n ≤ i ∨ ¬ w i = v i) : q_un w v n m = nI i := by
  have e9 := s_fst_yes (n := m) hf (decide_eq_true h) hi
  unfold q_un s_first9
  rw [e9, if_pos hi]
theorem q_un_n {w v : Nat → Int32} {n m i : Nat} (hf : s_fst (fun k => decide (n ≤ k ∨ ¬ w k = v k)) i = i) (hi : i = m) : q_un w v n m = -9 := by
  subst hi
  unfold q_un s_first9
  rw [hf, if_neg (by omega)]
/-- a change of the row of numbers: (the answer, which refusal, how many then, the numbers then) -/
def R_row (m : Nat) (w : Nat → Int32) (v : Int32) : Int32 × Nat × Nat × (Nat → Int32) :=
  if v < 0 then (-4, 4, m, w) else if 99 < v ∨ 12 ≤ m then (-6, 6, m, w) else (nI (m + 1), 0, m + 1, upd w m v)
def R_judge (r : Nat → Int32) (n na m : Nat) (w : Nat → Int32) (a : Int32) : Int32 × Nat × Nat × (Nat → Int32) :=
  if zin a na = false then (-1, 1, m, w) else (q_un w (q_leg r (zix a)) n m, 0, 0, w)
def zRc (A : Int32 × Nat × Nat × (Nat → Int32)) (G : zG) (r : Int32) (G1 : zG) : Prop := A.1 = r ∧ (∀ k, (k < 45 ∨ 91 < k) → G1 k = G k) ∧ G1 45 0 = nI A.2.2.1 ∧ G1 46 = A.2.2.2 ∧ G1 47 = zrf (G 47) A.2.1 ∧ zPl G1
def zRm (A : Int32 × Nat × Nat × (Nat → Int32)) (G : zG) (r : Int32) (G1 : zG) : Prop := A.1 = r ∧ (∀ k, (k < 92 ∨ k = 93 ∨ (95 ≤ k ∧ k ≤ 97)) → G1 k = G k) ∧ (∀ x, x ≠ 9 → G1 92 x = G 92 x) ∧ G1 92 9 = nI A.2.2.1 ∧ G1 98 = A.2.2.2 ∧ G1 99 = zrf (G 99) A.2.1
theorem zRc_of {A : Int32 × Nat × Nat × (Nat → Int32)} {G G1 : zG} {v : Int32} {k m : Nat} {w : Nat → Int32} (hA : A = (v, k, m, w)) (hF : ∀ k, (k < 45 ∨ 91 < k) → G1 k = G k) (h5 : G1 45 0 = nI m) (h6 : G1 46 = w) (hk : G1 47 = zrf (G 47) k) (hp : zPl G1) : zRc A G v G1 := by
  subst hA
  exact ⟨rfl, hF, h5, h6, hk, hp⟩
theorem zRm_of {A : Int32 × Nat × Nat × (Nat → Int32)} {G G1 : zG} {v : Int32} {k m : Nat} {w : Nat → Int32} (hA : A = (v, k, m, w)) (hF : ∀ k, (k < 92 ∨ k = 93 ∨ (95 ≤ k ∧ k ≤ 97)) → G1 k = G k) (h2 : ∀ x, x ≠ 9 → G1 92 x = G 92 x) (h5 : G1 92 9 = nI m) (h6 : G1 98 = w) (hk : G1 99 = zrf (G 99) k) : zRm A G v G1 := by
  subst hA
  exact ⟨rfl, hF, h2, h5, h6, hk⟩
theorem zFA_r {G : zG} {f : Nat} {r r2 : Nat → Int32} {n na : Nat} (h : zFA G f r n na) (hna : na ≤ 5) (e : ∀ j, j < 102 → r2 j = r j) : zFA G f r2 n na := by
  refine ⟨h.1, h.2.1, fun j hj => ?_, fun a ha => ⟨fun w hw => ?_, fun j hj => ?_⟩⟩
  · rw [e _ (by omega), e _ (by omega), e _ (by omega)]
    exact h.2.2.1 j hj
  · rw [e _ (by omega)]
    exact (h.2.2.2 a ha).1 w hw
  · rw [e _ (by omega)]
    exact (h.2.2.2 a ha).2 j hj
