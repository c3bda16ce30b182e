/-! the reference reads -/
theorem dig_59 {c : Int32} (h : c_dig c = true) : ¬ c = 59 := fun q => by
  rw [q] at h
  exact absurd h (by decide)
theorem kind_59 {c : Int32} (h : ¬ c_kind c = -9) : ¬ c = 59 := fun q => by
  rw [q] at h
  exact h (by decide)
theorem kind_neg {c : Int32} (h : c_kind c < 0) : c_kind c = -9 := by
  by_cases q : c_kind c = -9
  · exact q
  · obtain ⟨k, k1, k2⟩ := c_kind_b q
    rw [k2] at h
    exact absurd h (nI_pos (by omega))
theorem kind_pos {c : Int32} (h : ¬ c_kind c < 0) : ¬ c_kind c = -9 := fun q => h (by rw [q]; decide)
/-- the reference's reading of j digits, from place p and number m on -/
def RDg (G G1 : zG) (L : Nat → Int32) (K p m j : Nat) : Prop := (∀ i, i < j → p + i < K ∧ c_dig (L (p + i)) = true ∧ G1 103 (m + i) = nI (dn L (p + i))) ∧ (∀ x, x < m → G1 103 x = G 103 x) ∧ (∀ k, (k < 92 ∨ (92 < k ∧ k < 103) ∨ 103 < k) → G1 k = G k) ∧ (∀ x, x ≠ 13 → x ≠ 15 → G1 92 x = G 92 x) ∧ G1 92 13 = nI (p + j) ∧ G1 92 15 = nI (m + j)
theorem RDg_0 {G : zG} {L : Nat → Int32} {K p m : Nat} (h1 : G 92 13 = nI p) (h2 : G 92 15 = nI m) : RDg G G L K p m 0 := ⟨fun i h => absurd h (Nat.not_lt_zero i), fun _ _ => rfl, fun _ _ => rfl, fun _ _ _ => rfl, h1, h2⟩
theorem RDg_st {G G1 G2 : zG} {L : Nat → Int32} {K p m j : Nat} (h : RDg G G1 L K p m j) (a1 : p + j < K) (a2 : c_dig (L (p + j)) = true) (a3 : ∀ k, (k < 92 ∨ (92 < k ∧ k < 103) ∨ 103 < k) → G2 k = G1 k) (a4 : ∀ x, x ≠ 13 → x ≠ 15 → G2 92 x = G1 92 x) (a5 : G2 92 13 = nI (p + j + 1)) (a6 : G2 92 15 = nI (m + j + 1)) (a7 : G2 103 = upd (G1 103) (m + j) (nI (dn L (p + j)))) : RDg G G2 L K p m (j + 1) := by
  obtain ⟨h1, h2, h3, h4, h5, h6⟩ := h
  refine ⟨fun i hi => ?_, fun x hx => ?_, fun k hk => (a3 k hk).trans (h3 k hk), fun x b1 b2 => (a4 x b1 b2).trans (h4 x b1 b2), a5, a6⟩
  · by_cases e : i = j
    · subst e
      exact ⟨a1, a2, by rw [a7, pk_us]⟩
    · obtain ⟨c1, c2, c3⟩ := h1 i (by omega)
      exact ⟨c1, c2, by rw [a7, pk_un (by omega)]; exact c3⟩
  · rw [a7, pk_un (by omega)]
    exact h2 x hx
theorem RDg_le {G G1 : zG} {L : Nat → Int32} {K p m j : Nat} (h : RDg G G1 L K p m j) (hp : p ≤ K) : p + j ≤ K := by
  rcases Nat.eq_zero_or_pos j with q | q
  · omega
  · have := (h.1 (j - 1) (by omega)).1
    omega
/-- digits behind a head that is no s -/
theorem gs_d {L : Nat → Int32} {p j : Nat} (h0 : ¬ c_least (L p) = 0) (h1 : ¬ L p = 115) (hj : j ≤ c_most (L p)) (hd : ∀ i, i < j → c_dig (L (p + 1 + i)) = true) : ∀ x, p ≤ x → x < p + 1 + j → c_good L p x = true ∧ ¬ L x = 59 := fun x a b => by
  by_cases e : x = p
  · subst e
    refine ⟨?_, fun z => ?_⟩
    · unfold c_good
      rw [if_pos rfl]
      exact decide_eq_true h0
    · rw [z] at h0
      exact h0 (by decide)
  · have d := hd (x - p - 1) (by omega)
    rw [show p + 1 + (x - p - 1) = x by omega] at d
    refine ⟨?_, dig_59 d⟩
    unfold c_good c_fits
    rw [if_neg e, if_neg (dig_59 d), if_neg (by omega), if_neg (fun q => h1 q.1)]
    exact d
theorem gs_x {L : Nat → Int32} {K p j : Nat} (hr : ∀ x, p ≤ x → x < p + 1 + j → c_good L p x = true ∧ ¬ L x = 59) (hK : p + 1 + j ≤ K) (hb : p + 1 + j < K → ¬ c_fits (L p) (1 + j) (L (p + 1 + j)) = true) : g_stop L K p (p + 1 + j) := by
  refine ⟨by omega, hK, hr, fun h => ?_⟩
  unfold c_good
  rw [if_neg (by omega), show p + 1 + j - p = 1 + j by omega]
  exact hb h
theorem gs_ok {L : Nat → Int32} {p j : Nat} (hr : ∀ x, p ≤ x → x < p + 1 + j → c_good L p x = true ∧ ¬ L x = 59) (hl : c_least (L p) < 1 + j) (he : L (p + 1 + j) = 59) : gram L p (p + 1 + j) := by
  have h0 := (hr p (Nat.le_refl p) (by omega)).1
  unfold c_good at h0
  rw [if_pos rfl] at h0
  refine ⟨of_decide_eq_true h0, by omega, he, fun x a b => (hr x (by omega) b).2, fun x a b => ?_⟩
  by_cases e : x = p + 1 + j
  · subst e
    unfold c_fits
    rw [he, if_pos rfl]
    exact decide_eq_true (by omega)
  · have := (hr x (by omega) (by omega)).1
    unfold c_good at this
    rw [if_neg (by omega)] at this
    exact this
/-- a letter that is no digit doesn't fit where the least isn't reached -/
theorem nf_d {h c : Int32} {j : Nat} (hl : j < c_least h) (h1 : ¬ h = 115 ∨ 1 ≤ j) (hc : ¬ c_dig c = true) : ¬ c_fits h (1 + j) c = true := fun q => by
  unfold c_fits at q
  by_cases e : c = 59
  · rw [if_pos e] at q
    have := of_decide_eq_true q
    omega
  · rw [if_neg e] at q
    by_cases e2 : c_most h < 1 + j
    · rw [if_pos e2] at q
      exact absurd q (by decide)
    · rw [if_neg e2, if_neg (fun z => h1.elim (fun w => w z.1) (fun w => by omega))] at q
      exact hc q
/-- behind the most there fits ; alone -/
theorem nf_e {h c : Int32} {j : Nat} (hc : ¬ c = 59) (hm : c_most h < 1 + j ∨ (¬ c_dig c = true ∧ (¬ h = 115 ∨ 1 ≤ j))) : ¬ c_fits h (1 + j) c = true := fun q => by
  unfold c_fits at q
  rw [if_neg hc] at q
  by_cases e2 : c_most h < 1 + j
  · rw [if_pos e2] at q
    exact absurd q (by decide)
  · rw [if_neg e2] at q
    rcases hm with z | ⟨z, z2⟩
    · exact e2 z
    · rw [if_neg (fun y => z2.elim (fun w => w y.1) (fun w => by omega))] at q
      exact z q
theorem nf_k {c : Int32} (hc : c_kind c = -9) : ¬ c_fits 115 1 c = true := fun q => by
  unfold c_fits at q
  by_cases e : c = 59
  · rw [if_pos e] at q
    exact absurd (of_decide_eq_true q) (by decide)
  · rw [if_neg e, if_neg (by decide), if_pos ⟨rfl, rfl⟩] at q
    exact (of_decide_eq_true q) hc
theorem gs_0 {L : Nat → Int32} {p : Nat} (h0 : ¬ c_least (L p) = 0) : ∀ x, p ≤ x → x < p + 1 + 0 → c_good L p x = true ∧ ¬ L x = 59 := fun x a b => by
  have e : x = p := by omega
  subst e
  refine ⟨?_, fun z => ?_⟩
  · unfold c_good
    rw [if_pos rfl]
    exact decide_eq_true h0
  · rw [z] at h0
    exact h0 (by decide)
/-- s: a kind, then digits -/
theorem gs_s {L : Nat → Int32} {p j : Nat} (h : L p = 115) (hk : ¬ c_kind (L (p + 1)) = -9) (hj : j ≤ 2) (hd : ∀ i, i < j → c_dig (L (p + 2 + i)) = true) : ∀ x, p ≤ x → x < p + 1 + (1 + j) → c_good L p x = true ∧ ¬ L x = 59 := fun x a b => by
  by_cases e : x = p
  · subst e
    exact gs_0 (by rw [h]; decide) x (Nat.le_refl x) (by omega)
  · by_cases e1 : x = p + 1
    · subst e1
      refine ⟨?_, kind_59 hk⟩
      unfold c_good c_fits
      rw [if_neg (by omega), if_neg (kind_59 hk), h, c_m115.1, if_neg (by omega), if_pos ⟨rfl, by omega⟩]
      exact decide_eq_true hk
    · have d := hd (x - p - 2) (by omega)
      rw [show p + 2 + (x - p - 2) = x by omega] at d
      refine ⟨?_, dig_59 d⟩
      unfold c_good c_fits
      rw [if_neg e, if_neg (dig_59 d), h, c_m115.1, if_neg (by omega), if_neg (by omega)]
      exact d
theorem gram_stop {L : Nat → Int32} {K p e q : Nat} (h : gram L p e) (he : e < K) (hs : g_stop L K p q) : False := by
  obtain ⟨h1, h2, h3, h4⟩ := hs
  have hq : q ≤ e := by
    rcases Nat.lt_or_ge e q with c | c
    · exact absurd h.2.2.1 (h3 e (by have := h.2.1; omega) c).2
    · exact c
  refine h4 (by omega) ?_
  unfold c_good
  by_cases c : q = p
  · subst c
    rw [if_pos rfl]
    exact decide_eq_true h.1
  · rw [if_neg c]
    exact h.2.2.2.2 q (by omega) hq
/-- what is read of a STATEMENT from p to its ; at e -/
def RSt (G G1 : zG) (L : Nat → Int32) (p e : Nat) : Prop := (∀ k, (k < 92 ∨ (92 < k ∧ k < 103) ∨ 103 < k) → G1 k = G k) ∧ (∀ x, x ≠ 13 → x ≠ 15 → G1 92 x = G 92 x) ∧ G1 92 13 = nI (e + 1) ∧ G1 92 15 = nI (e - p - 1) ∧ (L p = 115 → G1 103 0 = c_kind (L (p + 1))) ∧ ∀ j, p + 1 + j < e → (L p = 115 → 1 ≤ j) → G1 103 j = nI (dn L (p + 1 + j))
theorem z_m9 {p c : Nat} (hp : p ≤ 1000) (hc : 100 ≤ c ∧ c ≤ 3000) : ¬ -(nI c) - nI p = -9 := fun q => by
  have h1 : (-(nI c)).toInt = -(c : Int) := by
    rw [Int32.toInt_neg, nI_toInt (by omega), Int.bmod_eq_of_le (by omega) (by omega)]
  have h := congrArg Int32.toInt q
  rw [Int32.toInt_sub, h1, nI_toInt (by omega), Int.bmod_eq_of_le (by omega) (by omega), show (-9 : Int32).toInt = -9 from by decide] at h
  omega
theorem s3_lo {r : Nat → Int32} {b : Nat} {N : Nat → Int32} : ∀ {k x : Nat}, x < b → s3 r b N k x = r x
  | 0, _, _ => rfl
  | k + 1, x, h => by
    show upd (s3 r b N k) (b + k) (N k) x = _
    rw [pk_un (by omega)]
    exact s3_lo h
theorem o_row_lo {r : Nat → Int32} {a i x : Nat} (h : x < 52) : o_row r a i x = r x := by
  rw [o_row_at, if_neg (by omega)]
theorem p_row_lo {r : Nat → Int32} {a i x : Nat} {N : Nat → Int32} (h : x < 52) : p_row r a N i x = r x := by
  rw [p_row_at, if_neg (by omega)]
