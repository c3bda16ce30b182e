/-! least TRIES: what can be reached -/
/-- SECONDS of SECTION i by v at LEGS g -/
def q_s (r : Nat → Int32) (a i v g : Nat) : Nat := (s_sec (m_plain r a i) (nI v) (nI g)).toNatClampNeg
theorem q_s_e {r : Nat → Int32} {n a i v g : Nat} (hs : zVs r n) (ha : zVa r a) (hi : i < n) (hv : v < 4) : s_sec (m_plain r a i) (nI v) (nI g) = nI (q_s r a i v g) ∧ q_s r a i v g ≤ 400 := by
  obtain ⟨p, h1, h2⟩ := plain_b hs ha hi
  obtain ⟨s, h3, h4⟩ := sec_b (g := nI g) h1 (show v ≤ 3 by omega)
  unfold q_s
  rw [h2, h4, nI_clamp (by omega)]
  exact ⟨rfl, h3⟩
/-- behind the first i SECTIONS: by so many TRIES together, with LEGS g, after s SECONDS -/
def rch (r : Nat → Int32) (a : Nat) : Nat → Nat → Nat → Nat → Prop
  | 0, x, g, s => x = 0 ∧ g = q_g r a ∧ s = 0
  | i + 1, x, g, s => ∃ v x0 g0 s0 : Nat, v < 4 ∧ rch r a i x0 g0 s0 ∧ x = x0 + v ∧ g = p_leg r i g0 v ∧ s = s0 + q_s r a i v g0
/-- the same by those steps alone that P has -/
def rcp (r : Nat → Int32) (a i : Nat) (P : Nat → Nat → Nat → Prop) (x g s : Nat) : Prop := ∃ v x0 g0 s0 : Nat, v < 4 ∧ P x0 g0 v ∧ rch r a i x0 g0 s0 ∧ x = x0 + v ∧ g = p_leg r i g0 v ∧ s = s0 + q_s r a i v g0
theorem rch_b {r : Nat → Int32} {n a : Nat} (hs : zVs r n) (ha : zVa r a) : ∀ {i x g s : Nat}, i ≤ n → rch r a i x g s → x ≤ 3 * i ∧ g < 100 ∧ s ≤ 400 * i
  | 0, x, g, s, _, h => by
    obtain ⟨h1, h2, h3⟩ := h
    exact ⟨by omega, by rw [h2]; exact (q_g_e ha).2, by omega⟩
  | i + 1, x, g, s, hi, h => by
    obtain ⟨v, x0, g0, s0, h1, h2, h3, h4, h5⟩ := h
    obtain ⟨b1, b2, b3⟩ := rch_b hs ha (by omega) h2
    have p := (p_leg_e (v := v) hs (show i < n by omega) b2 h1).2
    have q := (q_s_e (g := g0) hs ha (show i < n by omega) h1).2
    exact ⟨by omega, by rw [h4]; exact p, by omega⟩
theorem rcp_b {r : Nat → Int32} {n a i x g s : Nat} {P : Nat → Nat → Nat → Prop} (hs : zVs r n) (ha : zVa r a) (hi : i < n) (h : rcp r a i P x g s) : x ≤ 3 * (i + 1) ∧ g < 100 ∧ s ≤ 400 * (i + 1) := by
  obtain ⟨v, x0, g0, s0, h1, h0, h2, h3, h4, h5⟩ := h
  exact rch_b hs ha (show i + 1 ≤ n by omega) ⟨v, x0, g0, s0, h1, h2, h3, h4, h5⟩
/-- a table of the least SECONDS up to t; B: none -/
def tab (B : Int32) (t : Nat) (R : Nat → Nat → Nat → Prop) (T : Nat → Nat → Int32) : Prop := ∀ x g : Nat, x < 31 → g < 100 → (T x g = B ∧ ∀ s, R x g s → ¬ s ≤ t) ∨ ∃ s, T x g = nI s ∧ R x g s ∧ ∀ s2, R x g s2 → s2 ≤ t → s ≤ s2
theorem tab_ext {B : Int32} {t : Nat} {R R2 : Nat → Nat → Nat → Prop} {T T2 : Nat → Nat → Int32} (h : tab B t R T) (hR : ∀ x g s, x < 31 → g < 100 → (R2 x g s ↔ R x g s)) (hT : ∀ x g, x < 31 → g < 100 → T2 x g = T x g) : tab B t R2 T2 := fun x g hx hg => by
  rw [hT x g hx hg]
  rcases h x g hx hg with ⟨h1, h2⟩ | ⟨s, h1, h2, h3⟩
  · exact Or.inl ⟨h1, fun s q => h2 s ((hR x g s hx hg).mp q)⟩
  · exact Or.inr ⟨s, h1, (hR x g s hx hg).mpr h2, fun s2 q => h3 s2 ((hR x g s2 hx hg).mp q)⟩
/-- the same set of steps, by other words -/
theorem tab_P {B : Int32} {r : Nat → Int32} {n a i t : Nat} {P P2 : Nat → Nat → Nat → Prop} {T T2 : Nat → Nat → Int32} (hs : zVs r n) (ha : zVa r a) (hn : n ≤ 10) (hi : i < n) (h : tab B t (rcp r a i P) T) (hP : ∀ x g v, x ≤ 3 * i → g < 100 → v < 4 → (P2 x g v ↔ P x g v)) (hT : ∀ x g, x < 31 → g < 100 → T2 x g = T x g) : tab B t (rcp r a i P2) T2 := by
  refine tab_ext h (fun x g s _ _ => ⟨?_, ?_⟩) hT
  · rintro ⟨v, x0, g0, s0, h1, h0, h2, h3⟩
    obtain ⟨b1, b2, b3⟩ := rch_b hs ha (by omega) h2
    exact ⟨v, x0, g0, s0, h1, (hP x0 g0 v b1 b2 h1).mp h0, h2, h3⟩
  · rintro ⟨v, x0, g0, s0, h1, h0, h2, h3⟩
    obtain ⟨b1, b2, b3⟩ := rch_b hs ha (by omega) h2
    exact ⟨v, x0, g0, s0, h1, (hP x0 g0 v b1 b2 h1).mpr h0, h2, h3⟩
theorem tab_0 {B : Int32} {r : Nat → Int32} {a i t : Nat} {P : Nat → Nat → Nat → Prop} {T : Nat → Nat → Int32} (hP : ∀ x g v, ¬ P x g v) (hT : ∀ x g, x < 31 → g < 100 → T x g = B) : tab B t (rcp r a i P) T := fun x g hx hg => Or.inl ⟨hT x g hx hg, fun s => by
  rintro ⟨v, x0, g0, s0, h1, h0, h2, h3⟩
  exact absurd h0 (hP _ _ _)⟩
theorem tab_all {B : Int32} {r : Nat → Int32} {n a i t : Nat} {P : Nat → Nat → Nat → Prop} {T : Nat → Nat → Int32} (hs : zVs r n) (ha : zVa r a) (hn : n ≤ 10) (hi : i < n) (h : tab B t (rcp r a i P) T) (hP : ∀ x g v, x ≤ 3 * i → g < 100 → v < 4 → P x g v) : tab B t (rch r a (i + 1)) T := by
  refine tab_ext h (fun x g s _ _ => ⟨?_, ?_⟩) (fun _ _ _ _ => rfl)
  · rintro ⟨v, x0, g0, s0, h1, h2, h3⟩
    obtain ⟨b1, b2, b3⟩ := rch_b hs ha (by omega) h2
    exact ⟨v, x0, g0, s0, h1, hP x0 g0 v b1 b2 h1, h2, h3⟩
  · rintro ⟨v, x0, g0, s0, h1, h0, h2, h3⟩
    exact ⟨v, x0, g0, s0, h1, h2, h3⟩
theorem tab_st {B : Int32} {r : Nat → Int32} {a t : Nat} {T : Nat → Nat → Int32} (h0 : T 0 (q_g r a) = 0) (h : ∀ x g, x < 31 → g < 100 → ¬ (x = 0 ∧ g = q_g r a) → T x g = B) : tab B t (rch r a 0) T := fun x g hx hg => by
  by_cases q : x = 0 ∧ g = q_g r a
  · obtain ⟨rfl, rfl⟩ := q
    exact Or.inr ⟨0, h0, ⟨rfl, rfl, rfl⟩, fun s2 _ _ => Nat.zero_le _⟩
  · exact Or.inl ⟨h x g hx hg q, fun s q2 => absurd ⟨q2.1, q2.2.1⟩ q⟩
/-- a place of the table that goes on -/
theorem tab_in {B : Int32} {r : Nat → Int32} {n a i t x g : Nat} {T : Nat → Nat → Int32} (hs : zVs r n) (ha : zVa r a) (hi : i ≤ n) (h : tab B t (rch r a i) T) (hx : x < 31) (hg : g < 100) (hB : T x g ≠ B) : ∃ s, T x g = nI s ∧ rch r a i x g s ∧ (∀ s2, rch r a i x g s2 → s2 ≤ t → s ≤ s2) ∧ x ≤ 3 * i ∧ s ≤ 400 * i := by
  rcases h x g hx hg with ⟨h1, h2⟩ | ⟨s, h1, h2, h3⟩
  · exact absurd h1 hB
  · have b := rch_b hs ha hi h2
    exact ⟨s, h1, h2, h3, b.1, b.2.2⟩
/-- one step more -/
theorem tab_go {B : Int32} {r : Nat → Int32} {n a i t x0 g0 s0 v : Nat} {P P2 : Nat → Nat → Nat → Prop} {T T2 : Nat → Nat → Int32} (hs : zVs r n) (ha : zVa r a) (hn : n ≤ 10) (hi : i < n) (hB : nI 5000 < B) (h : tab B t (rcp r a i P) T) (hv : v < 4) (h1 : rch r a i x0 g0 s0) (h2 : ∀ s2, rch r a i x0 g0 s2 → s2 ≤ t → s0 ≤ s2) (hP : ∀ x g w, x ≤ 3 * i → g < 100 → w < 4 → (P2 x g w ↔ P x g w ∨ (x = x0 ∧ g = g0 ∧ w = v)))
    (hT : ∀ x g, x < 31 → g < 100 → ¬ (x = x0 + v ∧ g = p_leg r i g0 v) → T2 x g = T x g)
    (hm : (T2 (x0 + v) (p_leg r i g0 v) = T (x0 + v) (p_leg r i g0 v) ∧ ¬ nI (s0 + q_s r a i v g0) < T (x0 + v) (p_leg r i g0 v)) ∨ (T2 (x0 + v) (p_leg r i g0 v) = nI (s0 + q_s r a i v g0) ∧ ¬ T (x0 + v) (p_leg r i g0 v) < nI (s0 + q_s r a i v g0))) : tab B t (rcp r a i P2) T2 := by
  have old : ∀ {x g s : Nat}, rcp r a i P x g s → rcp r a i P2 x g s := by
    rintro x g s ⟨w, x1, g1, s1, a1, a2, a3, a4⟩
    obtain ⟨b1, b2, b3⟩ := rch_b hs ha (by omega) a3
    exact ⟨w, x1, g1, s1, a1, (hP x1 g1 w b1 b2 a1).mpr (Or.inl a2), a3, a4⟩
  have new : ∀ {x g s : Nat}, rcp r a i P2 x g s → rcp r a i P x g s ∨ (x = x0 + v ∧ g = p_leg r i g0 v ∧ ∃ s1, rch r a i x0 g0 s1 ∧ s = s1 + q_s r a i v g0) := by
    rintro x g s ⟨w, x1, g1, s1, a1, a2, a3, a4, a5, a6⟩
    obtain ⟨b1, b2, b3⟩ := rch_b hs ha (by omega) a3
    rcases (hP x1 g1 w b1 b2 a1).mp a2 with q | ⟨q1, q2, q3⟩
    · exact Or.inl ⟨w, x1, g1, s1, a1, q, a3, a4, a5, a6⟩
    · subst q1 q2 q3
      exact Or.inr ⟨a4, a5, s1, a3, a6⟩
  have b0 := rch_b hs ha (show i ≤ n by omega) h1
  have q0 := (q_s_e (g := g0) hs ha hi hv).2
  have me : rcp r a i P2 (x0 + v) (p_leg r i g0 v) (s0 + q_s r a i v g0) := ⟨v, x0, g0, s0, hv, (hP x0 g0 v b0.1 b0.2.1 hv).mpr (Or.inr ⟨rfl, rfl, rfl⟩), h1, rfl, rfl, rfl⟩
  intro x g hx hg
  by_cases q : x = x0 + v ∧ g = p_leg r i g0 v
  · obtain ⟨rfl, rfl⟩ := q
    have le : ∀ s2, rcp r a i P2 (x0 + v) (p_leg r i g0 v) s2 → s2 ≤ t → rcp r a i P (x0 + v) (p_leg r i g0 v) s2 ∨ s0 + q_s r a i v g0 ≤ s2 := fun s2 a1 a2 => by
      rcases new a1 with c | ⟨-, -, s1, c1, c2⟩
      · exact Or.inl c
      · exact Or.inr (by have := h2 s1 c1 (by omega); omega)
    rcases h _ _ hx hg with ⟨k1, k2⟩ | ⟨s, k1, k2, k3⟩
    · have lt : nI (s0 + q_s r a i v g0) < T (x0 + v) (p_leg r i g0 v) := by
        rw [k1]
        exact Int32.lt_of_le_of_lt (nI_le (by omega) (by decide)) hB
      rcases hm with ⟨m1, m2⟩ | ⟨m1, m2⟩
      · exact absurd lt m2
      · refine Or.inr ⟨_, m1, me, fun s2 a1 a2 => ?_⟩
        rcases le s2 a1 a2 with c | c
        · exact absurd a2 (k2 s2 c)
        · exact c
    · have kb := rcp_b hs ha hi k2
      rw [k1] at hm
      rcases hm with ⟨m1, m2⟩ | ⟨m1, m2⟩
      · have m3 : s ≤ s0 + q_s r a i v g0 := by
          rcases Nat.lt_or_ge (s0 + q_s r a i v g0) s with c | c
          · exact absurd (nI_lt c (by omega)) m2
          · exact c
        refine Or.inr ⟨s, m1, old k2, fun s2 a1 a2 => ?_⟩
        rcases le s2 a1 a2 with c | c
        · exact k3 s2 c a2
        · omega
      · have m3 : s0 + q_s r a i v g0 ≤ s := by
          rcases Nat.lt_or_ge s (s0 + q_s r a i v g0) with c | c
          · exact absurd (nI_lt c (by omega)) m2
          · exact c
        refine Or.inr ⟨_, m1, me, fun s2 a1 a2 => ?_⟩
        rcases le s2 a1 a2 with c | c
        · have := k3 s2 c a2
          omega
        · exact c
  · rw [hT x g hx hg q]
    rcases h _ _ hx hg with ⟨k1, k2⟩ | ⟨s, k1, k2, k3⟩
    · refine Or.inl ⟨k1, fun s a1 => ?_⟩
      rcases new a1 with c | ⟨c1, c2, -⟩
      · exact k2 s c
      · exact absurd ⟨c1, c2⟩ q
    · refine Or.inr ⟨s, k1, old k2, fun s2 a1 a2 => ?_⟩
      rcases new a1 with c | ⟨c1, c2, -⟩
      · exact k3 s2 c a2
      · exact absurd ⟨c1, c2⟩ q
/-- a place that doesn't go on: nothing comes of it up to t -/
theorem tab_sk {B : Int32} {r : Nat → Int32} {n a i t x0 g0 : Nat} {P P2 : Nat → Nat → Nat → Prop} {T : Nat → Nat → Int32} {Q : Nat → Prop} (hs : zVs r n) (ha : zVa r a) (hi : i < n) (h : tab B t (rcp r a i P) T) (h1 : ∀ s, rch r a i x0 g0 s → ¬ s ≤ t) (hP : ∀ x g w, x ≤ 3 * i → g < 100 → w < 4 → (P2 x g w ↔ P x g w ∨ (x = x0 ∧ g = g0 ∧ Q w))) : tab B t (rcp r a i P2) T := by
  have old : ∀ {x g s : Nat}, rcp r a i P x g s → rcp r a i P2 x g s := by
    rintro x g s ⟨w, x1, g1, s1, a1, a2, a3, a4⟩
    obtain ⟨b1, b2, b3⟩ := rch_b hs ha (by omega) a3
    exact ⟨w, x1, g1, s1, a1, (hP x1 g1 w b1 b2 a1).mpr (Or.inl a2), a3, a4⟩
  have new : ∀ {x g s : Nat}, rcp r a i P2 x g s → s ≤ t → rcp r a i P x g s := by
    rintro x g s ⟨w, x1, g1, s1, a1, a2, a3, a4, a5, a6⟩ hst
    obtain ⟨b1, b2, b3⟩ := rch_b hs ha (by omega) a3
    rcases (hP x1 g1 w b1 b2 a1).mp a2 with q | ⟨q1, q2, q3⟩
    · exact ⟨w, x1, g1, s1, a1, q, a3, a4, a5, a6⟩
    · subst q1 q2
      exact absurd (show s1 ≤ t by omega) (h1 s1 a3)
  intro x g hx hg
  rcases h _ _ hx hg with ⟨k1, k2⟩ | ⟨s, k1, k2, k3⟩
  · exact Or.inl ⟨k1, fun s a1 a2 => k2 s (new a1 a2) a2⟩
  · exact Or.inr ⟨s, k1, old k2, fun s2 a1 a2 => k3 s2 (new a1 a2) a2⟩
theorem tab_no {B : Int32} {t x g : Nat} {R : Nat → Nat → Nat → Prop} {T : Nat → Nat → Int32} (h : tab B t R T) (hx : x < 31) (hg : g < 100) (hT : ¬ T x g ≤ nI t) (hb : ∀ s, R x g s → s < 2 ^ 31) (ht : t < 2 ^ 31) : ∀ s, R x g s → ¬ s ≤ t := fun s a1 a2 => by
  rcases h x g hx hg with ⟨h1, h2⟩ | ⟨s1, h1, h2, h3⟩
  · exact h2 s a1 a2
  · have := h3 s a1 a2
    rw [h1] at hT
    exact hT (nI_le (by omega) ht)
/-- the fewest TRIES -/
def lt_has (r : Nat → Int32) (n a t x : Nat) : Prop := ∃ g s, g < 100 ∧ s ≤ t ∧ rch r a n x g s
def lt_ok (r : Nat → Int32) (n a t : Nat) (v : Int32) : Prop := (∃ m, m < 31 ∧ v = nI m ∧ lt_has r n a t m ∧ ∀ k, k < m → ¬ lt_has r n a t k) ∨ (v = -9 ∧ ∀ k, k < 31 → ¬ lt_has r n a t k)
theorem lt_un {r : Nat → Int32} {n a t : Nat} {v w : Int32} (h : lt_ok r n a t v) (h2 : lt_ok r n a t w) : v = w := by
  rcases h with ⟨m, h1, h3, h4, h5⟩ | ⟨h1, h3⟩
  · rcases h2 with ⟨k, k1, k3, k4, k5⟩ | ⟨k1, k3⟩
    · rcases Nat.lt_trichotomy m k with q | q | q
      · exact absurd h4 (k5 m q)
      · rw [h3, k3, q]
      · exact absurd k4 (h5 k q)
    · exact absurd h4 (k3 m h1)
  · rcases h2 with ⟨k, k1, k3, k4, k5⟩ | ⟨k1, k3⟩
    · exact absurd k4 (h3 k k1)
    · rw [h1, k1]
noncomputable def q_lt (r : Nat → Int32) (n a t : Nat) : Int32 := Classical.epsilon (fun v => lt_ok r n a t v)
theorem q_lt_e {r : Nat → Int32} {n a t : Nat} {v : Int32} (h : lt_ok r n a t v) : q_lt r n a t = v := lt_un (Classical.epsilon_spec (p := fun v => lt_ok r n a t v) ⟨v, h⟩) h
noncomputable def A_least (r : Nat → Int32) (n na : Nat) (a t : Int32) : Int32 × Nat :=
  if zin a na = false then (-1, 1) else if t < 0 then (-4, 4) else if 999 < t then (-6, 6) else (q_lt r n (zix a) (zix t), 0)
theorem lt_y {B : Int32} {r : Nat → Int32} {n a t t2 x g : Nat} {T : Nat → Nat → Int32} (hs : zVs r n) (ha : zVa r a) (hn : n ≤ 10) (h : tab B t2 (rch r a n) T) (hB : nI t < B) (ht : t < 1000) (h2 : t ≤ t2) (hx : x < 31) (hg : g < 100) (h3 : T x g ≤ nI t) (h4 : ∀ y, y < x → ∀ z, z < 100 → ¬ T y z ≤ nI t) : lt_ok r n a t (nI x) := by
  refine Or.inl ⟨x, hx, rfl, ?_, fun k hk => ?_⟩
  · rcases h x g hx hg with ⟨k1, k2⟩ | ⟨s, k1, k2, k3⟩
    · rw [k1] at h3
      exact absurd hB (Int32.not_lt.mpr h3)
    · have b := rch_b hs ha (Nat.le_refl n) k2
      refine ⟨g, s, hg, ?_, k2⟩
      rcases Nat.lt_or_ge t s with q | q
      · rw [k1] at h3
        exact absurd (nI_lt q (by omega)) (Int32.not_lt.mpr h3)
      · exact q
  · rintro ⟨z, s, a1, a2, a3⟩
    have b := rch_b hs ha (Nat.le_refl n) a3
    rcases h k z (by omega) a1 with ⟨k1, k2⟩ | ⟨s1, k1, k2, k3⟩
    · exact k2 s a3 (by omega)
    · have := k3 s a3 (by omega)
      refine h4 k hk z a1 ?_
      rw [k1]
      exact nI_le (by omega) (by omega)
theorem lt_n {B : Int32} {r : Nat → Int32} {n a t t2 : Nat} {T : Nat → Nat → Int32} (hs : zVs r n) (ha : zVa r a) (hn : n ≤ 10) (h : tab B t2 (rch r a n) T) (ht : t < 1000) (h2 : t ≤ t2) (h4 : ∀ y, y < 31 → ∀ z, z < 100 → ¬ T y z ≤ nI t) : lt_ok r n a t (-9) := by
  refine Or.inr ⟨rfl, fun k hk => ?_⟩
  rintro ⟨z, s, a1, a2, a3⟩
  rcases h k z hk a1 with ⟨k1, k2⟩ | ⟨s1, k1, k2, k3⟩
  · exact k2 s a3 (by omega)
  · have := k3 s a3 (by omega)
    refine h4 k hk z a1 ?_
    rw [k1]
    exact nI_le (by omega) (by omega)
theorem mn_two {x y : Int32} : (s_mn x y = x ∧ ¬ y < x) ∨ (s_mn x y = y ∧ ¬ x < y) := by
  unfold s_mn
  by_cases h : y < x
  · rw [if_pos h]
    exact Or.inr ⟨rfl, Int32.not_lt.mpr (Int32.le_of_lt h)⟩
  · rw [if_neg h]
    exact Or.inl ⟨rfl, h⟩
theorem min_two {x y : Int32} : (s_min x y = x ∧ ¬ y < x) ∨ (s_min x y = y ∧ ¬ x < y) := by
  unfold s_min
  by_cases h : x < y
  · rw [if_pos h]
    exact Or.inl ⟨rfl, Int32.not_lt.mpr (Int32.le_of_lt h)⟩
  · rw [if_neg h]
    exact Or.inr ⟨rfl, h⟩
/-- the planner's rows -/
theorem zPl_cd {G : zG} (h : zPl G) : ∃ c d : Nat, c + d = 1 ∧ G 70 6 = nI c ∧ G 70 7 = nI d := by
  rcases h with ⟨h1, h2⟩ | ⟨h1, h2⟩
  · exact ⟨0, 1, rfl, h1, h2⟩
  · exact ⟨1, 0, rfl, h1, h2⟩
theorem zPl_of {G : zG} {c d : Nat} (h : c + d = 1) (h6 : G 70 6 = nI c) (h7 : G 70 7 = nI d) : zPl G := by
  rcases (show (c = 0 ∧ d = 1) ∨ (c = 1 ∧ d = 0) by omega) with ⟨rfl, rfl⟩ | ⟨rfl, rfl⟩
  · exact Or.inl ⟨h6, h7⟩
  · exact Or.inr ⟨h6, h7⟩
theorem zIs_x {d x : Nat} (h : d ≤ 1) (e : x = 86 + d) : zIs x [(0, 11, 3100)] := by
  subst e
  rcases (show d = 0 ∨ d = 1 by omega) with rfl | rfl <;> (unfold zIs; decide +kernel)
theorem z_xr {k n r : Nat} {F : Nat → Int32} {j : Nat} (hn : n < 2 ^ 31) (hr : k + 16 + n = r) : k + 16 + (upd F j (nI n) j).toNatClampNeg = r := by
  rw [pk_us, nI_clamp hn]
  exact hr
theorem z_xo {k : Nat} {F : Nat → Int32} {j i : Nat} {v : Int32} (h : i ≠ j) : k + 16 + (upd F j v i).toNatClampNeg = k + 16 + (F i).toNatClampNeg := by rw [pk_un h]
theorem zPn_x {G G1 : zG} {r : Nat → Int32} {a n : Nat} (h : zPn G r a n) (h70 : ∀ x, x < 6 → G1 70 x = G 70 x) (hF : ∀ k, (k < 70 ∨ (70 < k ∧ k < 86) ∨ 87 < k) → G1 k = G k) : zPn G1 r a n := by
  refine ⟨(h70 0 (by decide)).trans h.1, (h70 1 (by decide)).trans h.2.1, fun j hj => ?_⟩
  rw [hF 71 (by decide), hF 72 (by decide), hF 73 (by decide)]
  exact h.2.2 j hj
theorem po_v {P : Prop} {y x z g w v : Nat} : (P ∨ (y = x ∧ z = g ∧ w < v + 1)) ↔ ((P ∨ (y = x ∧ z = g ∧ w < v)) ∨ (y = x ∧ z = g ∧ w = v)) := by
  constructor
  · rintro (h | ⟨h1, h2, h3⟩)
    · exact Or.inl (Or.inl h)
    · rcases (show w < v ∨ w = v by omega) with q | q
      · exact Or.inl (Or.inr ⟨h1, h2, q⟩)
      · exact Or.inr ⟨h1, h2, q⟩
  · rintro ((h | ⟨h1, h2, h3⟩) | ⟨h1, h2, h3⟩)
    · exact Or.inl h
    · exact Or.inr ⟨h1, h2, by omega⟩
    · exact Or.inr ⟨h1, h2, by omega⟩
