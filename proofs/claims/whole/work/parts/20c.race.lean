/-! the class's field behind a STATEMENT -/
theorem c_least_le (c : Int32) : c_least c ≤ 5 := by
  unfold c_least
  split
  · decide
  · split
    · decide
    · split
      · decide
      · split
        · decide
        · split <;> decide
theorem c_most_le (c : Int32) : c_most c ≤ 10 := by
  unfold c_most
  split
  · decide
  · exact Nat.le_trans (c_least_le c) (by decide)
theorem c_st_le (L : Nat → Int32) : ∀ p, c_st L p ≤ p
  | 0 => Nat.le_refl 0
  | p + 1 => by
    have := c_st_le L p
    unfold c_st
    split <;> omega
theorem cf1_y {L : Nat → Int32} {K p : Nat} (hf : s_fst (c_b L) p = p) (hp : p < K) (hb : ¬ c_good L (c_st L p) p = true) : c_f1 L K = nI p := by
  have e := s_fst_yes (n := K) hf (decide_eq_true hb) hp
  unfold c_f1
  rw [e, if_pos hp]
theorem cf1_K {L : Nat → Int32} {K : Nat} (hf : s_fst (c_b L) K = K) (h : c_st L K < K ∨ K = 0) : c_f1 L K = nI K := by
  unfold c_f1
  rw [hf, if_neg (by omega), if_pos h]
theorem cf1_9 {L : Nat → Int32} {K : Nat} (hf : s_fst (c_b L) K = K) (h : ¬ (c_st L K < K ∨ K = 0)) : c_f1 L K = -9 := by
  unfold c_f1
  rw [hf, if_neg (by omega), if_neg h]
theorem zFA_add {G G1 : zG} {r q : Nat → Int32} {n na : Nat} {kd fg ln : Int32} (h : zFA G 1 r n na) (hn : n < 10) (hna : na ≤ 5) (h2 : G1 2 0 = nI (n + 1)) (h3 : G1 3 = upd (G 3) n kd) (h4 : G1 4 = upd (G 4) n fg) (h5 : G1 5 = upd (G 5) n ln) (hF : ∀ k, (k < 2 ∨ 5 < k) → G1 k = G k) (hq : ∀ x, 2 ≤ x → x < 102 → q x = if x = 2 + 3 * n + 2 then ln else if x = 2 + 3 * n + 1 then fg else if x = 2 + 3 * n then kd else r x) : zFA G1 1 q (n + 1) na := by
  refine ⟨h2, (congrFun (hF 1 (by decide)) 2).trans h.2.1, fun j hj => ?_, fun a ha => ⟨fun w hw => ?_, fun j hj => ?_⟩⟩
  · obtain ⟨a1, a2, a3⟩ := h.2.2.1 j hj
    rw [hq _ (by omega) (by omega), hq _ (by omega) (by omega), hq _ (by omega) (by omega)]
    refine ⟨?_, ?_, ?_⟩
    · show G1 3 j = _
      rw [h3, if_neg (by omega), if_neg (by omega)]
      by_cases e : j = n
      · subst e; rw [pk_us, if_pos rfl]
      · rw [pk_un e, if_neg (by omega)]; exact a1
    · show G1 4 j = _
      rw [h4, if_neg (by omega)]
      by_cases e : j = n
      · subst e; rw [pk_us, if_pos (by omega)]
      · rw [pk_un e, if_neg (by omega), if_neg (by omega)]; exact a2
    · show G1 5 j = _
      rw [h5]
      by_cases e : j = n
      · subst e; rw [pk_us, if_pos (by omega)]
      · rw [pk_un e, if_neg (by omega), if_neg (by omega), if_neg (by omega)]; exact a3
  · rw [hF _ (by omega), hq _ (by omega) (by omega), if_neg (by omega), if_neg (by omega), if_neg (by omega)]
    exact (h.2.2.2 a ha).1 w hw
  · rw [hF _ (by omega), hq _ (by omega) (by omega), if_neg (by omega), if_neg (by omega), if_neg (by omega)]
    exact (h.2.2.2 a ha).2 j hj
theorem zFA_ath {G G1 : zG} {r q : Nat → Int32} {n na t : Nat} {v0 v1 v2 v3 : Int32} (h : zFA G 1 r n na) (hn : n ≤ 10) (hna : na < 5) (ht : t = 1 + 5 + 1 + 3 * na) (h1 : G1 1 2 = nI (na + 1)) (ha : G1 (t + 1) 0 = v0 ∧ G1 (t + 1) 1 = v1 ∧ G1 (t + 1) 2 = v2 ∧ G1 (t + 1) 3 = v3) (hb : ∀ j, j < 10 → G1 (t + 2) j = 1) (hF : ∀ k, (k < 1 ∨ (1 < k ∧ k < t + 1) ∨ t + 2 < k) → G1 k = G k)
    (hq : ∀ x, 2 ≤ x → x < 102 → q x = if 52 + 10 * na ≤ x ∧ x < 52 + 10 * na + 10 then 1 else if x = 35 + 4 * na then v3 else if x = 32 + 4 * na + 2 then v2 else if x = 32 + 4 * na + 1 then v1 else if x = 32 + 4 * na then v0 else r x) : zFA G1 1 q n (na + 1) := by
  refine ⟨(congrFun (hF 2 (by omega)) 0).trans h.1, h1, fun j hj => ?_, fun a haa => ⟨fun w hw => ?_, fun j hj => ?_⟩⟩
  · obtain ⟨a1, a2, a3⟩ := h.2.2.1 j hj
    rw [hq _ (by omega) (by omega), hq _ (by omega) (by omega), hq _ (by omega) (by omega)]
    refine ⟨?_, ?_, ?_⟩
    · rw [hF _ (by omega), if_neg (by omega), if_neg (by omega), if_neg (by omega), if_neg (by omega), if_neg (by omega)]; exact a1
    · rw [hF _ (by omega), if_neg (by omega), if_neg (by omega), if_neg (by omega), if_neg (by omega), if_neg (by omega)]; exact a2
    · rw [hF _ (by omega), if_neg (by omega), if_neg (by omega), if_neg (by omega), if_neg (by omega), if_neg (by omega)]; exact a3
  · by_cases e : a = na
    · subst e
      rw [show 1 + 7 + 3 * a = t + 1 by omega, hq _ (by omega) (by omega), if_neg (by omega)]
      rcases (show w = 0 ∨ w = 1 ∨ w = 2 ∨ w = 3 by omega) with rfl | rfl | rfl | rfl
      · rw [if_neg (by omega), if_neg (by omega), if_neg (by omega), if_pos (by omega)]; exact ha.1
      · rw [if_neg (by omega), if_neg (by omega), if_pos (by omega)]; exact ha.2.1
      · rw [if_neg (by omega), if_pos (by omega)]; exact ha.2.2.1
      · rw [if_pos (by omega)]; exact ha.2.2.2
    · rw [hF _ (by omega), hq _ (by omega) (by omega), if_neg (by omega), if_neg (by omega), if_neg (by omega), if_neg (by omega), if_neg (by omega)]
      exact (h.2.2.2 a (by omega)).1 w hw
  · by_cases e : a = na
    · subst e
      rw [show 1 + 8 + 3 * a = t + 2 by omega, hq _ (by omega) (by omega), if_pos (by omega)]
      exact hb j hj
    · rw [hF _ (by omega), hq _ (by omega) (by omega), if_neg (by omega), if_neg (by omega), if_neg (by omega), if_neg (by omega), if_neg (by omega)]
      exact (h.2.2.2 a (by omega)).2 j hj
theorem zFA_same {G : zG} {f : Nat} {r r2 : Nat → Int32} {n na n2 na2 : Nat} (h : zFA G f r n na) (e : r = r2) (e2 : n = n2) (e3 : na = na2) : zFA G f r2 n2 na2 := by
  subst e e2 e3
  exact h
theorem d_row_115 {L : Nat → Int32} {s e : Nat} {r : Nat → Int32} {n na : Nat} (c : L s = 115) : d_row L s e r n na = upd (s3 r (2 + 3 * n) (d_N L s) 3) 0 (nI (n + 1)) := if_pos c
theorem d_row_97 {L : Nat → Int32} {s e : Nat} {r : Nat → Int32} {n na : Nat} (c1 : ¬ L s = 115) (c : L s = 97) : d_row L s e r n na = upd (o_row (upd (s3 r (32 + 4 * na) (d_N L s) 3) (35 + 4 * na) (nI (10 * dn L (s + 4) + dn L (s + 5)))) na 10) 1 (nI (na + 1)) := by
  unfold d_row
  rw [if_neg c1, if_pos c]
theorem d_row_116 {L : Nat → Int32} {s e : Nat} {r : Nat → Int32} {n na : Nat} (c : L s = 116) : d_row L s e r n na = upd r (52 + 10 * dn L (s + 1) + dn L (s + 2)) (nI (dn L (s + 3))) := by
  unfold d_row
  rw [if_neg (by rw [c]; decide), if_neg (by rw [c]; decide), if_pos c]
theorem d_row_112 {L : Nat → Int32} {s e : Nat} {r : Nat → Int32} {n na : Nat} (c : L s = 112) : d_row L s e r n na = p_row r (dn L (s + 1)) (fun j => nI (dn L (s + 2 + j))) (e - s - 2) := by
  unfold d_row
  rw [if_neg (by rw [c]; decide), if_neg (by rw [c]; decide), if_neg (by rw [c]; decide), if_pos c]
theorem d_row_x {L : Nat → Int32} {s e : Nat} {r : Nat → Int32} {n na : Nat} (c1 : ¬ L s = 97) (c2 : ¬ L s = 112) (c3 : ¬ L s = 115) (c4 : ¬ L s = 116) : d_row L s e r n na = s_chg r (dn L (s + 1)) (dn L (s + 2)) 3 := by
  unfold d_row
  rw [if_neg c3, if_neg c1, if_neg c4, if_neg c2]
theorem d_n_o {L : Nat → Int32} {s n : Nat} (c : ¬ L s = 115) : d_n L s n = n := if_neg c
theorem d_na_o {L : Nat → Int32} {s n : Nat} (c : ¬ L s = 97) : d_na L s n = n := if_neg c
theorem z_hne {c : Int32} {a b : Int32} (h : c = a) (hab : a ≠ b) : ¬ c = b := fun q => hab (h.symm.trans q)
theorem d_ok_115 {L : Nat → Int32} {s e n na : Nat} (c : L s = 115) : d_ok L s e n na = decide (1 ≤ dn L (s + 3) ∧ n < 10) := if_pos c
theorem d_ok_97 {L : Nat → Int32} {s e n na : Nat} (c : L s = 97) : d_ok L s e n na = decide (na < 5) := by
  unfold d_ok
  rw [if_neg (z_hne c (by decide)), if_pos c]
theorem d_ok_116 {L : Nat → Int32} {s e n na : Nat} (c : L s = 116) : d_ok L s e n na = decide (dn L (s + 1) < na ∧ dn L (s + 2) < n ∧ dn L (s + 3) ≤ 3) := by
  unfold d_ok
  rw [if_neg (z_hne c (by decide)), if_neg (z_hne c (by decide)), if_pos c]
theorem d_ok_112 {L : Nat → Int32} {s e n na : Nat} (c : L s = 112) : d_ok L s e n na = decide (dn L (s + 1) < na ∧ s_fst (fun j => decide (3 < dn L (s + 2 + j))) (e - s - 2) = e - s - 2) := by
  unfold d_ok
  rw [if_neg (z_hne c (by decide)), if_neg (z_hne c (by decide)), if_neg (z_hne c (by decide)), if_pos c]
theorem d_ok_x {L : Nat → Int32} {s e n na : Nat} (c1 : ¬ L s = 97) (c2 : ¬ L s = 112) (c3 : ¬ L s = 115) (c4 : ¬ L s = 116) : d_ok L s e n na = decide (dn L (s + 1) < n ∧ dn L (s + 2) < n ∧ dn L (s + 1) ≠ dn L (s + 2)) := by
  unfold d_ok
  rw [if_neg c3, if_neg c1, if_neg c4, if_neg c2]
theorem r_keep {L : Nat → Int32} {K : Nat} {r : Nat → Int32} {n na : Nat} (hf : c_f1 L K = -9) (hK : K ≤ 96) (h : zRw r n na) : ∀ k, (∀ j, j < k → r_pos L K j < K ∧ r_ok L K n na j = true) → zRw (r_row L K r n na k) (r_n L K n k) (r_na L K na k)
  | 0, _ => h
  | k + 1, ha => by
    have ih := r_keep hf hK h k (fun j hj => ha j (by omega))
    obtain ⟨h1, h2⟩ := ha k (by omega)
    have g := (r_pos_g hf hK k (fun j hj => (ha j (by omega)).1)).1
    exact d_keep ih (g_all hf hK g h1).1 h2
/-- the numbers of SECTIONS and ATHLETES behind k STATEMENTS -/
theorem r_cnt {L : Nat → Int32} {K : Nat} {n na : Nat} (hn : n ≤ 10) (hna : na ≤ 5) : ∀ k, (∀ j, j < k → r_ok L K n na j = true) → r_n L K n k ≤ 10 ∧ r_na L K na k ≤ 5
  | 0, _ => ⟨hn, hna⟩
  | k + 1, ha => by
    obtain ⟨i1, i2⟩ := r_cnt hn hna k (fun j hj => ha j (by omega))
    have h := ha k (by omega)
    unfold r_ok at h
    show d_n L (r_pos L K k) (r_n L K n k) ≤ 10 ∧ d_na L (r_pos L K k) (r_na L K na k) ≤ 5
    unfold d_n d_na
    by_cases c : L (r_pos L K k) = 115
    · rw [d_ok_115 c] at h
      have h := of_decide_eq_true h
      rw [if_pos c, if_neg (z_hne c (by decide))]
      exact ⟨by omega, i2⟩
    · rw [if_neg c]
      by_cases c2 : L (r_pos L K k) = 97
      · rw [d_ok_97 c2] at h
        have h := of_decide_eq_true h
        rw [if_pos c2]
        exact ⟨i1, by omega⟩
      · rw [if_neg c2]
        exact ⟨i1, i2⟩
/-- what the class says of a text -/
def ft_ok (L : Nat → Int32) (K n na : Nat) (v : Int32) : Prop := (¬ c_f1 L K = -9 ∧ v = -1000 - c_f1 L K) ∨ (c_f1 L K = -9 ∧ ∃ k, (∀ j, j < k → r_pos L K j < K ∧ r_ok L K n na j = true) ∧ ((r_pos L K k < K ∧ ¬ r_ok L K n na k = true ∧ v = -2000 - nI (r_pos L K k)) ∨ (K ≤ r_pos L K k ∧ v = 0)))
theorem c_f1_v {L : Nat → Int32} {K : Nat} (h : ¬ c_f1 L K = -9) : ∃ p, p ≤ K ∧ c_f1 L K = nI p := by
  unfold c_f1 at h ⊢
  by_cases c : s_fst (c_b L) K < K
  · rw [if_pos c]; exact ⟨_, by omega, rfl⟩
  · rw [if_neg c] at h ⊢
    by_cases c2 : c_st L K < K ∨ K = 0
    · rw [if_pos c2]; exact ⟨K, Nat.le_refl K, rfl⟩
    · rw [if_neg c2] at h; exact absurd rfl h
theorem z_m1000 {p : Nat} {c : Nat} (hp : p ≤ 1000) (hc : 1 ≤ c ∧ c ≤ 3000) : ¬ -(nI c) - nI p = 0 := fun q => by
  have h1 : (-(nI c)).toInt = -(c : Int) := by
    rw [Int32.toInt_neg, nI_toInt (by omega), Int.bmod_eq_of_le (by omega) (by omega)]
  have h := congrArg Int32.toInt q
  rw [Int32.toInt_sub, h1, nI_toInt (by omega), Int.bmod_eq_of_le (by omega) (by omega), show (0 : Int32).toInt = 0 from rfl] at h
  omega
