/-! a race told in letters -/
def c_least (c : Int32) : Nat := if c = 97 then 5 else if c = 112 then 2 else if c = 115 then 3 else if c = 116 then 3 else if c = 120 then 2 else 0
def c_most (c : Int32) : Nat := if c = 112 then 10 else c_least c
def c_kind (c : Int32) : Int32 := if c = 115 then 0 else if c = 100 then 1 else if c = 114 then 2 else if c = 104 then 3 else if c = 119 then 4 else if c = 102 then 5 else if c = 99 then 6 else -9
def c_dig (c : Int32) : Bool := decide (48 ≤ c ∧ c ≤ 57)
def c_fits (h : Int32) (i : Nat) (c : Int32) : Bool := if c = 59 then decide (c_least h < i) else if c_most h < i then false else if h = 115 ∧ i = 1 then decide (¬ c_kind c = -9) else c_dig c
def c_good (L : Nat → Int32) (s p : Nat) : Bool := if p = s then decide (¬ c_least (L p) = 0) else c_fits (L s) (p - s) (L p)
/-- where the STATEMENT of place p begins -/
def c_st (L : Nat → Int32) : Nat → Nat
  | 0 => 0
  | p + 1 => if L p = 59 then p + 1 else c_st L p
def c_b (L : Nat → Int32) (p : Nat) : Bool := decide (¬ c_good L (c_st L p) p = true)
/-- the place of the first letter with which no RACE can go on; -9 -/
def c_f1 (L : Nat → Int32) (K : Nat) : Int32 := if s_fst (c_b L) K < K then nI (s_fst (c_b L) K) else if c_st L K < K ∨ K = 0 then nI K else -9
/-- the place of the next ;, from s on (K: none) -/
def c_end (L : Nat → Int32) (K s : Nat) : Nat := s + s_fst (fun j => decide (L (s + j) = 59)) (K - s)
def dn (L : Nat → Int32) (p : Nat) : Nat := (L p - 48).toNatClampNeg
theorem dn_e {L : Nat → Int32} {p : Nat} (h : c_dig (L p) = true) : L p - 48 = nI (dn L p) ∧ dn L p ≤ 9 := by
  have h2 := of_decide_eq_true h
  have h0 : ¬ L p < 0 := fun q => Int32.not_le.mpr (Int32.lt_trans q (by decide)) h2.1
  obtain ⟨j, hj, e⟩ := z_rng (m := 58) h0 h2.2 rfl (by decide)
  have h48 : 48 ≤ j := by
    rw [e] at h2
    rcases Nat.lt_or_ge j 48 with q | q
    · exact absurd h2.1 (Int32.not_le.mpr (nI_lt q (by decide)))
    · exact q
  unfold dn
  rw [e, show (48 : Int32) = nI 48 from rfl, pk_sub h48, nI_clamp (by omega)]
  exact ⟨rfl, by omega⟩
/-- a STATEMENT from s, its ; at e -/
def gram (L : Nat → Int32) (s e : Nat) : Prop := ¬ c_least (L s) = 0 ∧ s < e ∧ L e = 59 ∧ (∀ p, s < p → p < e → ¬ L p = 59) ∧ ∀ p, s < p → p ≤ e → c_fits (L s) (p - s) (L p) = true
theorem gram_e {L : Nat → Int32} {s e : Nat} (h : gram L s e) : s + c_least (L s) < e := by
  have := h.2.2.2.2 e h.2.1 (Nat.le_refl e)
  rw [h.2.2.1] at this
  unfold c_fits at this
  rw [if_pos rfl] at this
  have := of_decide_eq_true this
  have := h.2.1
  omega
theorem gram_p {L : Nat → Int32} {s e p : Nat} (h : gram L s e) (h1 : s < p) (h2 : p < e) : p - s ≤ c_most (L s) ∧ (L s = 115 ∧ p - s = 1 → ¬ c_kind (L p) = -9) ∧ (¬ (L s = 115 ∧ p - s = 1) → c_dig (L p) = true) := by
  have := h.2.2.2.2 p h1 (by omega)
  unfold c_fits at this
  rw [if_neg (h.2.2.2.1 p h1 h2)] at this
  by_cases q : c_most (L s) < p - s
  · rw [if_pos q] at this
    exact absurd this (by decide)
  · rw [if_neg q] at this
    refine ⟨by omega, fun c => ?_, fun c => ?_⟩
    · rw [if_pos c] at this
      exact of_decide_eq_true this
    · rw [if_neg c] at this
      exact this
theorem gram_m {L : Nat → Int32} {s e : Nat} (h : gram L s e) : e ≤ s + c_most (L s) + 1 := by
  rcases Nat.lt_or_ge (s + 1) e with q | q
  · have := (gram_p h (show s < e - 1 by omega) (by omega)).1
    omega
  · omega
theorem c_m115 : c_most 115 = 3 ∧ c_least 115 = 3 := by decide
theorem c_m116 : c_most 116 = 3 ∧ c_least 116 = 3 := by decide
theorem c_m97 : c_most 97 = 5 ∧ c_least 97 = 5 := by decide
theorem c_m112 : c_most 112 = 10 ∧ c_least 112 = 2 := by decide
theorem c_m120 : c_most 120 = 2 ∧ c_least 120 = 2 := by decide
theorem gram_115 {L : Nat → Int32} {s e : Nat} (h : gram L s e) (c : L s = 115) : e = s + 4 ∧ ¬ c_kind (L (s + 1)) = -9 ∧ c_dig (L (s + 2)) = true ∧ c_dig (L (s + 3)) = true := by
  have a := gram_e h
  have b := gram_m h
  rw [c, c_m115.1] at b
  rw [c, c_m115.2] at a
  exact ⟨by omega, (gram_p h (by omega) (by omega)).2.1 ⟨c, by omega⟩, (gram_p h (by omega) (by omega)).2.2 (by omega), (gram_p h (by omega) (by omega)).2.2 (by omega)⟩
theorem gram_d {L : Nat → Int32} {s e : Nat} (h : gram L s e) (c : ¬ L s = 115) : ∀ p, s < p → p < e → c_dig (L p) = true := fun p h1 h2 => (gram_p h h1 h2).2.2 (fun q => c q.1)
theorem gram_116 {L : Nat → Int32} {s e : Nat} (h : gram L s e) (c : L s = 116) : e = s + 4 := by
  have a := gram_e h
  have b := gram_m h
  rw [c, c_m116.1] at b
  rw [c, c_m116.2] at a
  omega
theorem gram_97 {L : Nat → Int32} {s e : Nat} (h : gram L s e) (c : L s = 97) : e = s + 6 := by
  have a := gram_e h
  have b := gram_m h
  rw [c, c_m97.1] at b
  rw [c, c_m97.2] at a
  omega
theorem gram_112 {L : Nat → Int32} {s e : Nat} (h : gram L s e) (c : L s = 112) : s + 3 ≤ e ∧ e ≤ s + 11 := by
  have a := gram_e h
  have b := gram_m h
  rw [c, c_m112.1] at b
  rw [c, c_m112.2] at a
  omega
theorem c_heads {c : Int32} (h : ¬ c_least c = 0) : c = 97 ∨ c = 112 ∨ c = 115 ∨ c = 116 ∨ c = 120 := by
  unfold c_least at h
  by_cases h1 : c = 97
  · exact Or.inl h1
  · by_cases h2 : c = 112
    · exact Or.inr (Or.inl h2)
    · by_cases h3 : c = 115
      · exact Or.inr (Or.inr (Or.inl h3))
      · by_cases h4 : c = 116
        · exact Or.inr (Or.inr (Or.inr (Or.inl h4)))
        · by_cases h5 : c = 120
          · exact Or.inr (Or.inr (Or.inr (Or.inr h5)))
          · rw [if_neg h1, if_neg h2, if_neg h3, if_neg h4, if_neg h5] at h
            exact absurd rfl h
theorem gram_120 {L : Nat → Int32} {s e : Nat} (h : gram L s e) (c1 : ¬ L s = 97) (c2 : ¬ L s = 112) (c3 : ¬ L s = 115) (c4 : ¬ L s = 116) : e = s + 3 := by
  have c : L s = 120 := by
    rcases c_heads h.1 with q | q | q | q | q
    · exact absurd q c1
    · exact absurd q c2
    · exact absurd q c3
    · exact absurd q c4
    · exact q
  have a := gram_e h
  have b := gram_m h
  rw [c, c_m120.1] at b
  rw [c, c_m120.2] at a
  omega
theorem gram_end {L : Nat → Int32} {K s e : Nat} (h : gram L s e) (he : e < K) : c_end L K s = e := by
  unfold c_end
  have h1 : s_fst (fun j => decide (L (s + j) = 59)) (e - s) = e - s := by
    have : ∀ i, i ≤ e - s → s_fst (fun j => decide (L (s + j) = 59)) i = i := fun i => by
      induction i with
      | zero => intro _; rfl
      | succ i ih =>
        intro hi
        refine s_fst_no (ih (by omega)) (fun q => ?_)
        have q2 := of_decide_eq_true q
        rcases Nat.eq_zero_or_pos i with z | z
        · subst z
          have hl := h.1
          rw [Nat.add_zero] at q2
          rw [q2] at hl
          exact hl (by decide)
        · exact h.2.2.2.1 (s + i) (by omega) (by omega) q2
    exact this _ (Nat.le_refl _)
  have h2 := s_fst_yes (n := K - s) h1 (decide_eq_true (by rw [show s + (e - s) = e by have := h.2.1; omega]; exact h.2.2.1)) (by have := h.2.1; omega)
  rw [h2]
  have := h.2.1
  omega
/-- all good so far, a STATEMENT begins at p -/
def g_at (L : Nat → Int32) (p : Nat) : Prop := c_st L p = p ∧ s_fst (c_b L) p = p
theorem g_at_0 (L : Nat → Int32) : g_at L 0 := ⟨rfl, rfl⟩
/-- good letters from the beginning p of a STATEMENT on, up to q, none of them ; -/
theorem g_run {L : Nat → Int32} {p : Nat} (h : g_at L p) : ∀ {q : Nat}, p ≤ q → (∀ x, p ≤ x → x < q → c_good L p x = true ∧ ¬ L x = 59) → c_st L q = p ∧ s_fst (c_b L) q = q := fun {q} => by
  induction q with
  | zero => intro h1 _; have : p = 0 := by omega
            subst this; exact h
  | succ q ih =>
    intro h1 h2
    by_cases e : p = q + 1
    · subst e; exact h
    · obtain ⟨i1, i2⟩ := ih (by omega) (fun x a b => h2 x a (by omega))
      obtain ⟨g1_, g2⟩ := h2 q (by omega) (by omega)
      refine ⟨?_, s_fst_no i2 (fun z => ?_)⟩
      · show (if L q = 59 then q + 1 else c_st L q) = p
        rw [if_neg g2, i1]
      · have := of_decide_eq_true z
        rw [i1] at this
        exact this g1_
theorem g_next {L : Nat → Int32} {p e : Nat} (h : g_at L p) (hg : gram L p e) : g_at L (e + 1) := by
  obtain ⟨i1, i2⟩ := g_run h (q := e) (by have := hg.2.1; omega) (fun x a b => by
    by_cases q : x = p
    · subst q
      refine ⟨?_, fun z => ?_⟩
      · unfold c_good
        rw [if_pos rfl]
        exact decide_eq_true hg.1
      · have hl := hg.1
        rw [z] at hl
        exact hl (by decide)
    · refine ⟨?_, hg.2.2.2.1 x (by omega) b⟩
      unfold c_good
      rw [if_neg q]
      exact hg.2.2.2.2 x (by omega) (by omega))
  refine ⟨?_, s_fst_no i2 (fun z => ?_)⟩
  · show (if L e = 59 then e + 1 else c_st L e) = e + 1
    rw [if_pos hg.2.2.1]
  · have := of_decide_eq_true z
    rw [i1] at this
    refine this ?_
    unfold c_good
    rw [if_neg (by have := hg.2.1; omega)]
    exact hg.2.2.2.2 e hg.2.1 (Nat.le_refl e)
/-- where reading from p stops without a STATEMENT -/
def g_stop (L : Nat → Int32) (K p q : Nat) : Prop := p ≤ q ∧ q ≤ K ∧ (∀ x, p ≤ x → x < q → c_good L p x = true ∧ ¬ L x = 59) ∧ (q < K → ¬ c_good L p q = true)
theorem g_f1 {L : Nat → Int32} {K p q : Nat} (h : g_at L p) (hs : g_stop L K p q) (hp : p < K ∨ K = 0) : c_f1 L K = nI q := by
  obtain ⟨h1, h2, h3, h4⟩ := hs
  obtain ⟨i1, i2⟩ := g_run h h1 h3
  unfold c_f1
  rcases Nat.lt_or_ge q K with c | c
  · have e := s_fst_yes (n := K) i2 (decide_eq_true (by rw [i1]; exact h4 c)) c
    rw [e, if_pos c]
  · have e : q = K := by omega
    subst e
    rw [if_neg (by omega), if_pos (by omega)]
theorem g_f9 {L : Nat → Int32} {K : Nat} (h : g_at L K) (hK : 0 < K) : c_f1 L K = -9 := by
  unfold c_f1
  rw [if_neg (by rw [h.2]; omega), if_neg (by rw [h.1]; omega)]
/-- no fault of a letter: at each beginning there stands a STATEMENT -/
theorem g_all {L : Nat → Int32} {K p : Nat} (hf : c_f1 L K = -9) (hK : K ≤ 96) (h : g_at L p) (hp : p < K) : gram L p (c_end L K p) ∧ c_end L K p < K := by
  have hb : s_fst (c_b L) K = K ∧ c_st L K = K := by
    unfold c_f1 at hf
    by_cases c : s_fst (c_b L) K < K
    · rw [if_pos c] at hf
      exact absurd hf (nI_n9 (by omega))
    · rw [if_neg c] at hf
      have l := s_fst_le (c_b L) K
      by_cases c2 : c_st L K < K ∨ K = 0
      · rw [if_pos c2] at hf
        exact absurd hf (nI_n9 (by omega))
      · have st_le : ∀ x, c_st L x ≤ x := fun x => by
          induction x with
          | zero => exact Nat.le_refl 0
          | succ x ih =>
            unfold c_st
            split <;> omega
        have := st_le K
        exact ⟨by omega, by omega⟩
  have all : ∀ x, x < K → c_good L (c_st L x) x = true := fun x hx => by
    have : ∀ i, s_fst (c_b L) i = i → ∀ x, x < i → ¬ c_b L x = true := fun i => by
      induction i with
      | zero => intro _ x hx; exact absurd hx (Nat.not_lt_zero x)
      | succ i ih =>
        intro hi x hx
        unfold s_fst at hi
        by_cases c : s_fst (c_b L) i < i
        · rw [if_pos c] at hi; omega
        · rw [if_neg c] at hi
          by_cases c2 : c_b L i = true
          · rw [if_pos c2] at hi; omega
          · have := s_fst_le (c_b L) i
            rcases Nat.lt_or_ge x i with q | q
            · exact ih (by omega) x q
            · rw [show x = i by omega]; exact c2
    have := this K hb.1 x hx
    by_cases g : c_good L (c_st L x) x = true
    · exact g
    · exact absurd (decide_eq_true g) this
  have hle := s_fst_le (fun j => decide (L (p + j) = 59)) (K - p)
  have no : ∀ i, i ≤ s_fst (fun j => decide (L (p + j) = 59)) (K - p) → c_st L (p + i) = p ∧ ∀ j, j < i → ¬ L (p + j) = 59 := fun i => by
    induction i with
    | zero => intro _; exact ⟨h.1, fun j hj => absurd hj (Nat.not_lt_zero j)⟩
    | succ i ih =>
      intro hi
      obtain ⟨i1, i2⟩ := ih (by omega)
      have hn : ¬ L (p + i) = 59 := fun q => by
        have f0 : ∀ m, m ≤ i → s_fst (fun j => decide (L (p + j) = 59)) m = m := fun m => by
          induction m with
          | zero => intro _; rfl
          | succ m ihm => intro hm; exact s_fst_no (ihm (by omega)) (fun z => i2 m (by omega) (of_decide_eq_true z))
        have := s_fst_yes (n := K - p) (f0 i (Nat.le_refl i)) (decide_eq_true q) (by omega)
        omega
      refine ⟨?_, fun j hj => ?_⟩
      · show (if L (p + i) = 59 then p + i + 1 else c_st L (p + i)) = p
        rw [if_neg hn, i1]
      · rcases Nat.lt_or_ge j i with q | q
        · exact i2 j q
        · rw [show j = i by omega]; exact hn
  have hlt : c_end L K p < K := by
    unfold c_end
    rcases Nat.lt_or_ge (p + s_fst (fun j => decide (L (p + j) = 59)) (K - p)) K with q | q
    · exact q
    · exfalso
      have := (no _ (Nat.le_refl _)).1
      rw [show p + s_fst (fun j => decide (L (p + j) = 59)) (K - p) = K by omega, hb.2] at this
      omega
  have hyes : L (c_end L K p) = 59 := by
    unfold c_end at hlt ⊢
    have : ∀ n, s_fst (fun j => decide (L (p + j) = 59)) n < n → L (p + s_fst (fun j => decide (L (p + j) = 59)) n) = 59 := fun n => by
      induction n with
      | zero => intro q; exact absurd q (Nat.not_lt_zero _)
      | succ n ih =>
        intro q
        unfold s_fst at q ⊢
        by_cases c : s_fst (fun j => decide (L (p + j) = 59)) n < n
        · rw [if_pos c]; exact ih c
        · rw [if_neg c] at q ⊢
          by_cases c2 : decide (L (p + n) = 59) = true
          · rw [if_pos c2]; exact of_decide_eq_true c2
          · rw [if_neg c2] at q; omega
    exact this _ (by omega)
  have h0 : ¬ c_least (L p) = 0 := by
    have := all p hp
    rw [h.1] at this
    unfold c_good at this
    rw [if_pos rfl] at this
    exact of_decide_eq_true this
  have hpe : p < c_end L K p := by
    rcases Nat.lt_or_ge p (c_end L K p) with q | q
    · exact q
    · exfalso
      have : c_end L K p = p := by unfold c_end at q ⊢; omega
      rw [this] at hyes
      rw [hyes] at h0
      exact h0 (by decide)
  refine ⟨⟨h0, hpe, hyes, fun x h1 h2 => ?_, fun x h1 h2 => ?_⟩, hlt⟩
  · have := (no _ (Nat.le_refl _)).2 (x - p) (by unfold c_end at h2; omega)
    rw [show p + (x - p) = x by omega] at this
    exact this
  · have hc := (no (x - p) (by unfold c_end at h2; omega)).1
    rw [show p + (x - p) = x by omega] at hc
    have := all x (by omega)
    rw [hc] at this
    unfold c_good at this
    rw [if_neg (by omega)] at this
    exact this
