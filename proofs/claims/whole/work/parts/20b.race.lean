/-! what a STATEMENT does -/
def s3 (r : Nat → Int32) (at_ : Nat) (N : Nat → Int32) : Nat → (Nat → Int32)
  | 0 => r
  | k + 1 => upd (s3 r at_ N k) (at_ + k) (N k)
def o_row (r : Nat → Int32) (a : Nat) : Nat → (Nat → Int32)
  | 0 => r
  | i + 1 => upd (o_row r a i) (52 + 10 * a + i) 1
def p_row (r : Nat → Int32) (a : Nat) (N : Nat → Int32) : Nat → (Nat → Int32)
  | 0 => r
  | j + 1 => upd (p_row r a N j) (52 + 10 * a + j) (N j)
/-- the numbers of a STATEMENT from s -/
def d_N (L : Nat → Int32) (s : Nat) : Nat → Int32 := fun k => if L s = 115 ∧ k = 0 then c_kind (L (s + 1)) else nI (dn L (s + 1 + k))
def d_ok (L : Nat → Int32) (s e n na : Nat) : Bool :=
  if L s = 115 then decide (1 ≤ dn L (s + 3) ∧ n < 10) else if L s = 97 then decide (na < 5) else if L s = 116 then decide (dn L (s + 1) < na ∧ dn L (s + 2) < n ∧ dn L (s + 3) ≤ 3)
  else if L s = 112 then decide (dn L (s + 1) < na ∧ s_fst (fun j => decide (3 < dn L (s + 2 + j))) (e - s - 2) = e - s - 2) else decide (dn L (s + 1) < n ∧ dn L (s + 2) < n ∧ dn L (s + 1) ≠ dn L (s + 2))
def d_row (L : Nat → Int32) (s e : Nat) (r : Nat → Int32) (n na : Nat) : Nat → Int32 :=
  if L s = 115 then upd (s3 r (2 + 3 * n) (d_N L s) 3) 0 (nI (n + 1))
  else if L s = 97 then upd (o_row (upd (s3 r (32 + 4 * na) (d_N L s) 3) (35 + 4 * na) (nI (10 * dn L (s + 4) + dn L (s + 5)))) na 10) 1 (nI (na + 1))
  else if L s = 116 then upd r (52 + 10 * dn L (s + 1) + dn L (s + 2)) (nI (dn L (s + 3)))
  else if L s = 112 then p_row r (dn L (s + 1)) (fun j => nI (dn L (s + 2 + j))) (e - s - 2)
  else s_chg r (dn L (s + 1)) (dn L (s + 2)) 3
def d_n (L : Nat → Int32) (s n : Nat) : Nat := if L s = 115 then n + 1 else n
def d_na (L : Nat → Int32) (s na : Nat) : Nat := if L s = 97 then na + 1 else na
/-- behind k STATEMENTS: the place, the race -/
def r_pos (L : Nat → Int32) (K : Nat) : Nat → Nat
  | 0 => 0
  | k + 1 => c_end L K (r_pos L K k) + 1
def r_n (L : Nat → Int32) (K n : Nat) : Nat → Nat
  | 0 => n
  | k + 1 => d_n L (r_pos L K k) (r_n L K n k)
def r_na (L : Nat → Int32) (K na : Nat) : Nat → Nat
  | 0 => na
  | k + 1 => d_na L (r_pos L K k) (r_na L K na k)
def r_row (L : Nat → Int32) (K : Nat) (r : Nat → Int32) (n na : Nat) : Nat → (Nat → Int32)
  | 0 => r
  | k + 1 => d_row L (r_pos L K k) (c_end L K (r_pos L K k)) (r_row L K r n na k) (r_n L K n k) (r_na L K na k)
def r_ok (L : Nat → Int32) (K n na k : Nat) : Bool := d_ok L (r_pos L K k) (c_end L K (r_pos L K k)) (r_n L K n k) (r_na L K na k)
theorem r_pos_ge (L : Nat → Int32) (K : Nat) : ∀ k, k ≤ r_pos L K k
  | 0 => Nat.le_refl 0
  | k + 1 => by
    have := r_pos_ge L K k
    show k + 1 ≤ c_end L K (r_pos L K k) + 1
    unfold c_end
    omega
theorem r_pos_g {L : Nat → Int32} {K : Nat} (hf : c_f1 L K = -9) (hK : K ≤ 96) : ∀ k, (∀ j, j < k → r_pos L K j < K) → g_at L (r_pos L K k) ∧ r_pos L K k ≤ K
  | 0, _ => ⟨g_at_0 L, Nat.zero_le _⟩
  | k + 1, h => by
    obtain ⟨i1, i2⟩ := r_pos_g hf hK k (fun j hj => h j (by omega))
    have hk := h k (by omega)
    obtain ⟨a, b⟩ := g_all hf hK i1 hk
    exact ⟨g_next i1 a, b⟩
/-- how a RACE told ends: v the answer, and the race then -/
def r_res (L : Nat → Int32) (K : Nat) (r : Nat → Int32) (n na : Nat) (v : Int32) (q : Nat → Int32) (n2 na2 : Nat) : Prop :=
  (¬ c_f1 L K = -9 ∧ v = -1000 - c_f1 L K ∧ q = r ∧ n2 = n ∧ na2 = na) ∨
  (c_f1 L K = -9 ∧ ∃ k, (∀ j, j < k → r_pos L K j < K ∧ r_ok L K n na j = true) ∧
    ((r_pos L K k < K ∧ ¬ r_ok L K n na k = true ∧ v = -2000 - nI (r_pos L K k) ∧ q = r ∧ n2 = n ∧ na2 = na) ∨
     (K ≤ r_pos L K k ∧ v = nI k ∧ q = r_row L K r n na k ∧ n2 = r_n L K n k ∧ na2 = r_na L K na k)))
theorem r_res_u {L : Nat → Int32} {K : Nat} {r : Nat → Int32} {n na : Nat} {v v2 : Int32} {q q2 : Nat → Int32} {n2 na2 n3 na3 : Nat} (h : r_res L K r n na v q n2 na2) (h2 : r_res L K r n na v2 q2 n3 na3) : v = v2 ∧ q = q2 ∧ n2 = n3 ∧ na2 = na3 := by
  rcases h with ⟨a0, a1, a2, a3, a4⟩ | ⟨a0, k, a1, a2⟩
  · rcases h2 with ⟨b0, b1, b2, b3, b4⟩ | ⟨b0, _⟩
    · exact ⟨a1.trans b1.symm, a2.trans b2.symm, a3.trans b3.symm, a4.trans b4.symm⟩
    · exact absurd b0 a0
  · rcases h2 with ⟨b0, _⟩ | ⟨b0, j, b1, b2⟩
    · exact absurd a0 b0
    · have e : k = j := by
        rcases Nat.lt_trichotomy k j with c | c | c
        · obtain ⟨c1, c2⟩ := b1 k c
          rcases a2 with ⟨d1, d2, _⟩ | ⟨d1, _⟩
          · exact absurd c2 d2
          · omega
        · exact c
        · obtain ⟨c1, c2⟩ := a1 j c
          rcases b2 with ⟨d1, d2, _⟩ | ⟨d1, _⟩
          · exact absurd c2 d2
          · omega
      subst e
      rcases a2 with ⟨d1, d2, d3, d4, d5, d6⟩ | ⟨d1, d3, d4, d5, d6⟩
      · rcases b2 with ⟨e1, e2, e3, e4, e5, e6⟩ | ⟨e1, _⟩
        · exact ⟨d3.trans e3.symm, d4.trans e4.symm, d5.trans e5.symm, d6.trans e6.symm⟩
        · omega
      · rcases b2 with ⟨e1, _⟩ | ⟨e1, e3, e4, e5, e6⟩
        · omega
        · exact ⟨d3.trans e3.symm, d4.trans e4.symm, d5.trans e5.symm, d6.trans e6.symm⟩
/-! the race stays as it must be -/
theorem c_kind_b {c : Int32} (h : ¬ c_kind c = -9) : ∃ k : Nat, k < 7 ∧ c_kind c = nI k := by
  unfold c_kind at h ⊢
  by_cases h1 : c = 115
  · rw [if_pos h1]; exact ⟨0, by decide, rfl⟩
  · rw [if_neg h1] at h ⊢
    by_cases h2 : c = 100
    · rw [if_pos h2]; exact ⟨1, by decide, rfl⟩
    · rw [if_neg h2] at h ⊢
      by_cases h3 : c = 114
      · rw [if_pos h3]; exact ⟨2, by decide, rfl⟩
      · rw [if_neg h3] at h ⊢
        by_cases h4 : c = 104
        · rw [if_pos h4]; exact ⟨3, by decide, rfl⟩
        · rw [if_neg h4] at h ⊢
          by_cases h5 : c = 119
          · rw [if_pos h5]; exact ⟨4, by decide, rfl⟩
          · rw [if_neg h5] at h ⊢
            by_cases h6 : c = 102
            · rw [if_pos h6]; exact ⟨5, by decide, rfl⟩
            · rw [if_neg h6] at h ⊢
              by_cases h7 : c = 99
              · rw [if_pos h7]; exact ⟨6, by decide, rfl⟩
              · rw [if_neg h7] at h
                exact absurd rfl h
/-- what a row must be -/
def zRw (r : Nat → Int32) (n na : Nat) : Prop := r 0 = nI n ∧ r 1 = nI na ∧ n ≤ 10 ∧ na ≤ 5 ∧ zVr r n na
theorem s3_at {r : Nat → Int32} {b : Nat} {N : Nat → Int32} (x : Nat) : s3 r b N 3 x = if x = b + 2 then N 2 else if x = b + 1 then N 1 else if x = b then N 0 else r x := rfl
theorem o_row_at {r : Nat → Int32} {a : Nat} : ∀ (i x : Nat), o_row r a i x = if 52 + 10 * a ≤ x ∧ x < 52 + 10 * a + i then 1 else r x
  | 0, x => (if_neg (by omega)).symm
  | i + 1, x => by
    show upd (o_row r a i) (52 + 10 * a + i) 1 x = _
    by_cases h : x = 52 + 10 * a + i
    · subst h; rw [pk_us, if_pos (by omega)]
    · rw [pk_un h, o_row_at i x]
      by_cases q : 52 + 10 * a ≤ x ∧ x < 52 + 10 * a + i
      · rw [if_pos q, if_pos (by omega)]
      · rw [if_neg q, if_neg (by omega)]
theorem p_row_at {r : Nat → Int32} {a : Nat} {N : Nat → Int32} : ∀ (i x : Nat), p_row r a N i x = if 52 + 10 * a ≤ x ∧ x < 52 + 10 * a + i then N (x - (52 + 10 * a)) else r x
  | 0, x => (if_neg (by omega)).symm
  | i + 1, x => by
    show upd (p_row r a N i) (52 + 10 * a + i) (N i) x = _
    by_cases h : x = 52 + 10 * a + i
    · subst h
      rw [pk_us, if_pos (by omega), show 52 + 10 * a + i - (52 + 10 * a) = i by omega]
    · rw [pk_un h, p_row_at i x]
      by_cases q : 52 + 10 * a ≤ x ∧ x < 52 + 10 * a + i
      · rw [if_pos q, if_pos (by omega)]
      · rw [if_neg q, if_neg (by omega)]
theorem z_p3 {L : Nat → Int32} {b : Nat} : ∀ {m : Nat}, s_fst (fun j => decide (3 < dn L (b + j))) m = m → ∀ j, j < m → dn L (b + j) ≤ 3
  | 0, _, j, h => absurd h (Nat.not_lt_zero j)
  | m + 1, h, j, hj => by
    unfold s_fst at h
    have l := s_fst_le (fun j => decide (3 < dn L (b + j))) m
    by_cases c : s_fst (fun j => decide (3 < dn L (b + j))) m < m
    · rw [if_pos c] at h; omega
    · rw [if_neg c] at h
      by_cases c2 : decide (3 < dn L (b + m)) = true
      · rw [if_pos c2] at h; omega
      · rcases Nat.lt_or_ge j m with q | q
        · exact z_p3 (show _ = m by omega) j q
        · rw [show j = m by omega]
          rcases Nat.lt_or_ge 3 (dn L (b + m)) with z | z
          · exact absurd (decide_eq_true z) c2
          · exact z
theorem zVs_hi {r q : Nat → Int32} {n : Nat} (h : zVs r n) (hn : n ≤ 10) (e : ∀ x, 2 ≤ x → x < 32 → q x = r x) : zVs q n := fun i hi => by
  obtain ⟨k, f, l, h1, h2, h3, h4, h5, h6, h7⟩ := h i hi
  exact ⟨k, f, l, h1, h2, h3, h4, by rw [e _ (by omega) (by omega)]; exact h5, by rw [e _ (by omega) (by omega)]; exact h6, by rw [e _ (by omega) (by omega)]; exact h7⟩
theorem zVa_e {r q : Nat → Int32} {a : Nat} (h : zVa r a) (e : ∀ w, w < 4 → q (32 + 4 * a + w) = r (32 + 4 * a + w)) (e2 : ∀ i, i < 10 → q (52 + 10 * a + i) = r (52 + 10 * a + i)) : zVa q a := by
  refine ⟨fun w hw => ?_, ?_, fun i hi => ?_⟩
  · rw [e w (by omega)]; exact h.1 w hw
  · have := e 3 (by omega)
    rw [show 32 + 4 * a + 3 = 35 + 4 * a by omega] at this
    rw [this]; exact h.2.1
  · rw [e2 i hi]; exact h.2.2 i hi
theorem s_chg_out {r : Nat → Int32} {i j x : Nat} (hi : i < 10) (hj : j < 10) (hx : x < 2 ∨ 32 ≤ x) : s_chg r i j 3 x = r x := by
  rcases hx with h | h
  · exact s_chg_lo 3 x h
  · exact s_chg_hi hi hj 3 x (by decide) h
theorem s_chg_sec {r : Nat → Int32} {i k n : Nat} (hi : i < n) (hk : k < n) (hik : i ≠ k) : ∀ x, x < n → ∃ y, y < n ∧ s_chg r i k 3 (2 + 3 * x) = r (2 + 3 * y) ∧ s_chg r i k 3 (3 + 3 * x) = r (3 + 3 * y) ∧ s_chg r i k 3 (4 + 3 * x) = r (4 + 3 * y) := fun x hx => by
  have a0 := s_chg_at (r := r) (i := i) (j := k) (x := x) (c := 0) hik (by decide) 3 (by decide) (by decide)
  have a1 := s_chg_at (r := r) (i := i) (j := k) (x := x) (c := 1) hik (by decide) 3 (by decide) (by decide)
  have a2 := s_chg_at (r := r) (i := i) (j := k) (x := x) (c := 2) hik (by decide) 3 (by decide) (by decide)
  rw [show 3 + 3 * x = 2 + 3 * x + 1 by omega, show 4 + 3 * x = 2 + 3 * x + 2 by omega]
  by_cases h1 : x = i
  · rw [if_pos h1] at a0 a1 a2
    exact ⟨k, hk, a0, a1.trans (congrArg r (by omega)), a2.trans (congrArg r (by omega))⟩
  · rw [if_neg h1] at a0 a1 a2
    by_cases h2 : x = k
    · rw [if_pos h2] at a0 a1 a2
      exact ⟨i, hi, a0, a1.trans (congrArg r (by omega)), a2.trans (congrArg r (by omega))⟩
    · rw [if_neg h2] at a0 a1 a2
      exact ⟨x, hx, a0, a1.trans (congrArg r (by omega)), a2.trans (congrArg r (by omega))⟩
theorem d_keep {L : Nat → Int32} {s e : Nat} {r : Nat → Int32} {n na : Nat} (h : zRw r n na) (hg : gram L s e) (hd : d_ok L s e n na = true) : zRw (d_row L s e r n na) (d_n L s n) (d_na L s na) := by
  obtain ⟨h0, h1, hn, hna, hs, ha⟩ := h
  unfold d_ok at hd
  unfold d_row d_n d_na
  by_cases c1 : L s = 115
  · have c2 : ¬ L s = 97 := fun q => absurd (c1.symm.trans q) (by decide)
    rw [if_pos c1] at hd
    have hd := of_decide_eq_true hd
    obtain ⟨g1_, g2, g3, g4⟩ := gram_115 hg c1
    obtain ⟨k, k1, k2⟩ := c_kind_b g2
    have e2 := dn_e g3
    have e3 := dn_e g4
    rw [if_pos c1, if_pos c1, if_neg c2]
    refine ⟨pk_us, by rw [pk_un (by decide), s3_at, if_neg (by omega), if_neg (by omega), if_neg (by omega)]; exact h1, by omega, hna, fun i hi => ?_, fun a haa => ?_⟩
    · by_cases c : i = n
      · subst c
        refine ⟨k, dn L (s + 2), dn L (s + 3), k1, e2.2, hd.1, e3.2, ?_, ?_, ?_⟩
        · rw [pk_un (by omega), s3_at, if_neg (by omega), if_neg (by omega), if_pos rfl]
          unfold d_N
          rw [if_pos ⟨c1, rfl⟩]
          exact k2
        · rw [pk_un (by omega), s3_at, if_neg (by omega), if_pos (by omega)]
          unfold d_N
          rw [if_neg (by omega)]
        · rw [pk_un (by omega), s3_at, if_pos (by omega)]
          unfold d_N
          rw [if_neg (by omega)]
      · obtain ⟨k', f, l, a1, a2, a3, a4, a5, a6, a7⟩ := hs i (by omega)
        refine ⟨k', f, l, a1, a2, a3, a4, ?_, ?_, ?_⟩
        · rw [pk_un (by omega), s3_at, if_neg (by omega), if_neg (by omega), if_neg (by omega)]; exact a5
        · rw [pk_un (by omega), s3_at, if_neg (by omega), if_neg (by omega), if_neg (by omega)]; exact a6
        · rw [pk_un (by omega), s3_at, if_neg (by omega), if_neg (by omega), if_neg (by omega)]; exact a7
    · refine zVa_e (ha a haa) (fun w hw => ?_) (fun i hi => ?_)
      · rw [pk_un (by omega), s3_at, if_neg (by omega), if_neg (by omega), if_neg (by omega)]
      · rw [pk_un (by omega), s3_at, if_neg (by omega), if_neg (by omega), if_neg (by omega)]
  · rw [if_neg c1] at hd
    rw [if_neg c1, if_neg c1]
    have gd := gram_d hg c1
    by_cases c2 : L s = 97
    · rw [if_pos c2] at hd
      have hd := of_decide_eq_true hd
      have g1_ := gram_97 hg c2
      rw [if_pos c2, if_pos c2]
      have dd : ∀ k, k < 5 → dn L (s + 1 + k) ≤ 9 := fun k hk => (dn_e (gd (s + 1 + k) (by omega) (by omega))).2
      refine ⟨?_, pk_us, hn, by omega, ?_, fun a haa => ?_⟩
      · rw [pk_un (by decide), o_row_at, if_neg (by omega), pk_un (by omega), s3_at, if_neg (by omega), if_neg (by omega), if_neg (by omega)]; exact h0
      · refine zVs_hi hs hn (fun x hx1 hx2 => ?_)
        rw [pk_un (by omega), o_row_at, if_neg (by omega), pk_un (by omega), s3_at, if_neg (by omega), if_neg (by omega), if_neg (by omega)]
      · by_cases c : a = na
        · subst c
          refine ⟨fun w hw => ⟨dn L (s + 1 + w), dd w (by omega), ?_⟩, ⟨10 * dn L (s + 4) + dn L (s + 5), ?_, ?_⟩, fun i hi => ⟨1, by decide, ?_⟩⟩
          · rw [pk_un (by omega), o_row_at, if_neg (by omega), pk_un (by omega), s3_at]
            have dN : ∀ k, d_N L s k = nI (dn L (s + 1 + k)) := fun k => if_neg (fun q => c1 q.1)
            rcases (show w = 0 ∨ w = 1 ∨ w = 2 by omega) with rfl | rfl | rfl
            · rw [if_neg (by omega), if_neg (by omega), if_pos (by omega), dN]
            · rw [if_neg (by omega), if_pos (by omega), dN]
            · rw [if_pos (by omega), dN]
          · have a1 := dd 3 (by omega)
            have a2 := dd 4 (by omega)
            rw [show s + 1 + 3 = s + 4 by omega] at a1
            rw [show s + 1 + 4 = s + 5 by omega] at a2
            omega
          · rw [pk_un (by omega), o_row_at, if_neg (by omega), pk_us]
          · rw [pk_un (by omega), o_row_at, if_pos (by omega)]
            rfl
        · refine zVa_e (ha a (by omega)) (fun w hw => ?_) (fun i hi => ?_)
          · rw [pk_un (by omega), o_row_at, if_neg (by omega), pk_un (by omega), s3_at, if_neg (by omega), if_neg (by omega), if_neg (by omega)]
          · rw [pk_un (by omega), o_row_at, if_neg (by omega), pk_un (by omega), s3_at, if_neg (by omega), if_neg (by omega), if_neg (by omega)]
    · rw [if_neg c2] at hd
      rw [if_neg c2, if_neg c2]
      by_cases c3 : L s = 116
      · rw [if_pos c3] at hd
        have hd := of_decide_eq_true hd
        rw [if_pos c3]
        refine ⟨by rw [pk_un (by omega)]; exact h0, by rw [pk_un (by omega)]; exact h1, hn, hna, zVs_hi hs hn (fun x a b => pk_un (by omega)), fun a haa => ⟨fun w hw => ?_, ?_, fun i hi => ?_⟩⟩
        · rw [pk_un (by omega)]; exact (ha a haa).1 w hw
        · rw [pk_un (by omega)]; exact (ha a haa).2.1
        · by_cases c : 52 + 10 * a + i = 52 + 10 * dn L (s + 1) + dn L (s + 2)
          · rw [c, pk_us]; exact ⟨_, hd.2.2, rfl⟩
          · rw [pk_un c]; exact (ha a haa).2.2 i hi
      · rw [if_neg c3] at hd
        rw [if_neg c3]
        by_cases c4 : L s = 112
        · rw [if_pos c4] at hd
          have hd := of_decide_eq_true hd
          obtain ⟨g1_, g2⟩ := gram_112 hg c4
          have p3 := z_p3 hd.2
          rw [if_pos c4]
          refine ⟨by rw [p_row_at, if_neg (by omega)]; exact h0, by rw [p_row_at, if_neg (by omega)]; exact h1, hn, hna, zVs_hi hs hn (fun x a b => by rw [p_row_at, if_neg (by omega)]), fun a haa => ⟨fun w hw => ?_, ?_, fun i hi => ?_⟩⟩
          · rw [p_row_at, if_neg (by omega)]; exact (ha a haa).1 w hw
          · rw [p_row_at, if_neg (by omega)]; exact (ha a haa).2.1
          · rw [p_row_at]
            by_cases c : 52 + 10 * dn L (s + 1) ≤ 52 + 10 * a + i ∧ 52 + 10 * a + i < 52 + 10 * dn L (s + 1) + (e - s - 2)
            · rw [if_pos c]
              exact ⟨_, p3 _ (by omega), rfl⟩
            · rw [if_neg c]; exact (ha a haa).2.2 i hi
        · rw [if_neg c4] at hd
          have hd := of_decide_eq_true hd
          rw [if_neg c4]
          have ch : ∀ x, (x < 2 ∨ 32 ≤ x) → s_chg r (dn L (s + 1)) (dn L (s + 2)) 3 x = r x := fun x hx => s_chg_out (by omega) (by omega) hx
          refine ⟨by rw [ch 0 (by omega)]; exact h0, by rw [ch 1 (by omega)]; exact h1, hn, hna, fun i hi => ?_, fun a haa => zVa_e (ha a haa) (fun w hw => ch _ (by omega)) (fun i hi => ch _ (by omega))⟩
          obtain ⟨x, hx, e1, e2, e3⟩ := s_chg_sec (r := r) (i := dn L (s + 1)) (k := dn L (s + 2)) (n := n) hd.1 hd.2.1 hd.2.2 i hi
          obtain ⟨k, f, l, a1, a2, a3, a4, a5, a6, a7⟩ := hs x hx
          exact ⟨k, f, l, a1, a2, a3, a4, e1.trans a5, e2.trans a6, e3.trans a7⟩
