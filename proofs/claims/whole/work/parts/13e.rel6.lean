/-! who is just ahead -/
theorem z_subf {s t : Nat} (hs : s ≤ 4000) (ht : t ≤ 4000) : nI s - nI t < 1000000000 := by
  rw [Int32.lt_iff_toInt_lt, Int32.toInt_sub, nI_toInt (by omega), nI_toInt (by omega), Int.bmod_eq_of_le (by omega) (by omega), show (1000000000 : Int32).toInt = 1000000000 from by decide]
  omega
/-- the least of v 0 .. v (i - 1) that is above 0, and its place; none: -9 -/
def b_up (v : Nat → Int32) : Nat → Int32 × Int32
  | 0 => (1000000000, -9)
  | i + 1 => if 0 < v i ∧ v i < (b_up v i).1 then (v i, nI i) else b_up v i
theorem b_up_y {v : Nat → Int32} {i : Nat} {b z : Int32} (h : (b, z) = b_up v i) (h0 : 0 < v i) (hv : v i < b) : (v i, nI i) = b_up v (i + 1) := by
  show _ = if 0 < v i ∧ v i < (b_up v i).1 then _ else _
  rw [← h, if_pos ⟨h0, hv⟩]
theorem b_up_n {v : Nat → Int32} {i : Nat} {b z : Int32} (h : (b, z) = b_up v i) (hv : ¬ (0 < v i ∧ v i < b)) : (b, z) = b_up v (i + 1) := by
  show _ = if 0 < v i ∧ v i < (b_up v i).1 then _ else _
  rw [← h, if_neg hv]
/-- the same without a number beyond all: b and z are it -/
def c_up (v : Nat → Int32) (b z : Int32) (i : Nat) : Prop := (z = -9 ∧ b = -9 ∧ b_up v i = (1000000000, -9)) ∨ ∃ k : Nat, k < 10 ∧ z = nI k ∧ b_up v i = (b, z)
theorem c_up_0 {v : Nat → Int32} : c_up v (-9) (-9) 0 := Or.inl ⟨rfl, rfl, rfl⟩
theorem nI_n9 {k : Nat} (h : k < 2 ^ 31) : ¬ nI k = -9 := fun q => by
  have e := nI_pos' h
  rw [q] at e
  exact absurd e (by decide)
theorem c_up_y {v : Nat → Int32} {b z : Int32} {i : Nat} (h : c_up v b z i) (hi : i < 10) (hv : v i < 1000000000) (h0 : 0 < v i) (h2 : z = -9 ∨ v i < b) : c_up v (v i) (nI i) (i + 1) := by
  refine Or.inr ⟨i, hi, rfl, ?_⟩
  rcases h with ⟨_, _, e⟩ | ⟨k, hk, e1, e2⟩
  · exact (b_up_y e.symm h0 hv).symm
  · rcases h2 with q | q
    · exact absurd (e1.symm.trans q) (nI_n9 (by omega))
    · exact (b_up_y e2.symm h0 q).symm
theorem c_up_n {v : Nat → Int32} {b z : Int32} {i : Nat} (h : c_up v b z i) (h2 : ¬ 0 < v i ∨ ¬ (z = -9 ∨ v i < b)) : c_up v b z (i + 1) := by
  rcases h with ⟨e1, e2, e⟩ | ⟨k, hk, e1, e2⟩
  · refine Or.inl ⟨e1, e2, ?_⟩
    rw [← b_up_n e.symm (fun q => h2.elim (fun y => y q.1) (fun y => y (Or.inl e1)))]
  · refine Or.inr ⟨k, hk, e1, ?_⟩
    rw [← b_up_n e2.symm (fun q => h2.elim (fun y => y q.1) (fun y => y (Or.inr q.2)))]
def q_dr (r : Nat → Int32) (n a b : Nat) : Int32 := q_fin r n a - q_fin r n b
def A_draw (r : Nat → Int32) (n na : Nat) (a w : Int32) : Int32 × Nat :=
  if zin a na = false then (-1, 1) else if w < 0 ∨ 1 < w then (-2, 2) else if w = 0 ∨ (b_up (q_dr r n (zix a)) na).2 < 0 then ((b_up (q_dr r n (zix a)) na).2, 0) else ((b_up (q_dr r n (zix a)) na).1, 0)
theorem q_dr_b {r : Nat → Int32} {n na a b : Nat} (hV : zVr r n na) (ha : a < na) (hb : b < na) (hn : n ≤ 10) : q_dr r n a b < 1000000000 := by
  obtain ⟨s, h1, h2⟩ := fin_b (d := -1) hV.1 (hV.2 a ha) hn
  obtain ⟨t, h3, h4⟩ := fin_b (d := -1) hV.1 (hV.2 b hb) hn
  show (m_run r a (-1) n).2 - (m_run r b (-1) n).2 < _
  rw [h2, h4]
  exact z_subf h1 h3
theorem c_up_end {v : Nat → Int32} {b z : Int32} {i n : Nat} (h : c_up v b z i) (hi : i = n) : (b_up v n).2 = z ∧ ((z < 0 ∧ b = z) ∨ (¬ z < 0 ∧ (b_up v n).1 = b)) := by
  subst hi
  rcases h with ⟨e1, e2, e⟩ | ⟨k, hk, e1, e2⟩
  · rw [e]
    exact ⟨e1.symm, Or.inl ⟨by rw [e1]; decide, e2.trans e1.symm⟩⟩
  · rw [e2]
    exact ⟨rfl, Or.inr ⟨by rw [e1]; exact nI_pos (by omega), rfl⟩⟩
theorem b_up_end {v : Nat → Int32} {n i : Nat} {b z : Int32} (h : (b, z) = b_up v i) (hi : i = n) : (b_up v n).2 = z ∧ (b_up v n).1 = b := by
  subst hi
  rw [← h]
  exact ⟨rfl, rfl⟩
