/-! punctures: ways, fractions -/
def l_pow (x : Int64) : Nat → Int64
  | 0 => 1
  | k + 1 => l_pow x k * x
theorem l_pow_n (t : Nat) : ∀ k, l_pow (lN t) k = lN (t ^ k)
  | 0 => rfl
  | k + 1 => by
    show l_pow (lN t) k * lN t = _
    rw [l_pow_n t k, lN_mul, Nat.pow_succ]
theorem lN_nz {k : Nat} (h : 0 < k) (h2 : k < 2 ^ 63) : ¬ lN k = 0 := fun q => by
  have := (pk_lEQ (b := 0) h2 (by decide)).mp q
  omega
def n_sum (f : Nat → Nat) : Nat → Nat
  | 0 => 0
  | k + 1 => n_sum f k + f k
theorem n_sum_c {f g : Nat → Nat} : ∀ {n : Nat}, (∀ i, i < n → f i = g i) → n_sum f n = n_sum g n
  | 0, _ => rfl
  | n + 1, h => by
    show n_sum f n + f n = n_sum g n + g n
    rw [n_sum_c (fun i hi => h i (by omega)), h n (by omega)]
theorem n_sum_le {f : Nat → Nat} {B : Nat} : ∀ {n : Nat}, (∀ i, i < n → f i ≤ B) → n_sum f n ≤ n * B
  | 0, _ => Nat.zero_le _
  | n + 1, h => by
    have a := n_sum_le (n := n) (fun i hi => h i (by omega))
    have b := h n (by omega)
    have e : (n + 1) * B = n * B + B := Nat.succ_mul n B
    show n_sum f n + f n ≤ _
    omega
theorem n_sum_app (f : Nat → Nat) (a : Nat) : ∀ b, n_sum f (a + b) = n_sum f a + n_sum (fun k => f (a + k)) b
  | 0 => rfl
  | b + 1 => by
    show n_sum f (a + b) + f (a + b) = n_sum f a + (n_sum (fun k => f (a + k)) b + f (a + b))
    rw [n_sum_app f a b, Nat.add_assoc]
/-- k out of n -/
def chs : Nat → Nat → Nat
  | _, 0 => 1
  | 0, _ + 1 => 0
  | n + 1, k + 1 => chs n k + chs n (k + 1)
theorem chs_0 (n : Nat) : chs n 0 = 1 := by cases n <;> rfl
theorem chs_z : ∀ {n k : Nat}, n < k → chs n k = 0
  | 0, k + 1, _ => rfl
  | n + 1, k + 1, h => by
    show chs n k + chs n (k + 1) = 0
    rw [chs_z (by omega), chs_z (by omega)]
theorem chs_st : ∀ n, n < 11 → ∀ p, p < 11 → p ≤ n → chs n p * (n - p) / (p + 1) = chs n (p + 1) ∧ chs n p * (n - p) < 100000 := by decide +kernel
theorem chs_sum (F : Nat → Nat) (n : Nat) : ∀ m, n_sum (fun k => chs (n + 1) k * F k) (m + 1) = n_sum (fun k => chs n k * F k) (m + 1) + n_sum (fun k => chs n k * F (k + 1)) m
  | 0 => by
    show 0 + chs (n + 1) 0 * F 0 = 0 + chs n 0 * F 0 + 0
    rw [chs_0, chs_0, Nat.add_zero]
  | m + 1 => by
    show n_sum (fun k => chs (n + 1) k * F k) (m + 1) + chs (n + 1) (m + 1) * F (m + 1) = n_sum (fun k => chs n k * F k) (m + 1) + chs n (m + 1) * F (m + 1) + (n_sum (fun k => chs n k * F (k + 1)) m + chs n m * F (m + 1))
    rw [chs_sum F n m]
    show _ + (chs n m + chs n (m + 1)) * F (m + 1) = _
    rw [Nat.add_mul]
    omega
/-- how many of the first k bits are 1 -/
def pcs (s : Nat) : Nat → Nat
  | 0 => 0
  | k + 1 => pcs s k + s / 2 ^ k % 2
theorem pcs_le (s : Nat) : ∀ k, pcs s k ≤ k
  | 0 => Nat.le_refl 0
  | k + 1 => by
    have := pcs_le s k
    show pcs s k + s / 2 ^ k % 2 ≤ k + 1
    omega
theorem pcs_hi {s n : Nat} : ∀ {k : Nat}, k ≤ n → pcs (2 ^ n + s) k = pcs s k
  | 0, _ => rfl
  | k + 1, h => by
    show pcs (2 ^ n + s) k + (2 ^ n + s) / 2 ^ k % 2 = pcs s k + s / 2 ^ k % 2
    rw [pcs_hi (by omega)]
    have e : 2 ^ n = 2 ^ k * (2 * 2 ^ (n - k - 1)) := by
      rw [← Nat.mul_assoc, ← Nat.pow_succ, ← Nat.pow_add]
      congr 1
      omega
    rw [e, Nat.mul_add_div (Nat.two_pow_pos k)]
    omega
theorem pcs_sum : ∀ (n : Nat) (F : Nat → Nat), n_sum (fun s => F (pcs s n)) (2 ^ n) = n_sum (fun k => chs n k * F k) (n + 1)
  | 0, F => by
    show 0 + F 0 = 0 + 1 * F 0
    omega
  | n + 1, F => by
    rw [Nat.pow_succ, Nat.mul_two, n_sum_app, chs_sum F n (n + 1)]
    have a : n_sum (fun s => F (pcs s (n + 1))) (2 ^ n) = n_sum (fun s => F (pcs s n)) (2 ^ n) := n_sum_c fun s hs => by
      show F (pcs s n + s / 2 ^ n % 2) = _
      rw [Nat.div_eq_of_lt hs]
      rfl
    have b : n_sum (fun k => F (pcs (2 ^ n + k) (n + 1))) (2 ^ n) = n_sum (fun s => F (pcs s n + 1)) (2 ^ n) := n_sum_c fun s hs => by
      show F (pcs (2 ^ n + s) n + (2 ^ n + s) / 2 ^ n % 2) = _
      rw [pcs_hi (Nat.le_refl n), Nat.add_div_left _ (Nat.two_pow_pos n), Nat.div_eq_of_lt hs]
    rw [a, b, pcs_sum n F, pcs_sum n (fun x => F (x + 1))]
    congr 1
    show _ = n_sum (fun k => chs n k * F k) (n + 1) + chs n (n + 1) * F (n + 1)
    rw [chs_z (Nat.lt_succ_self n)]
    omega
/-- one number of punctures: its ways -/
def o_f (n t u v f : Nat) (k : Nat) : Nat := if f + k * u ≤ v then (t - 1) ^ (n - k) else 0
/-- in how many of the ways FINISH is v or less -/
def o_ways (n t u v f : Nat) : Nat := n_sum (fun k => chs n k * o_f n t u v f k) (n + 1)
theorem o_f_le {n t u v f k : Nat} (hn : n ≤ 10) (ht : t ≤ 20) : o_f n t u v f k ≤ 6131066257801 := by
  unfold o_f
  split
  · have a : (t - 1) ^ (n - k) ≤ 19 ^ (n - k) := Nat.pow_le_pow_left (by omega) _
    have b : 19 ^ (n - k) ≤ 19 ^ 10 := Nat.pow_le_pow_right (by decide) (by omega)
    have c : (19 : Nat) ^ 10 = 6131066257801 := by decide
    omega
  · exact Nat.zero_le _
theorem o_ways_b {n t u v f : Nat} (hn : n ≤ 10) (ht : t ≤ 20) : o_ways n t u v f < 2 ^ 62 := by
  unfold o_ways
  rw [← pcs_sum n (o_f n t u v f)]
  have a := n_sum_le (f := fun s => o_f n t u v f (pcs s n)) (n := 2 ^ n) (B := 6131066257801) (fun i _ => o_f_le hn ht)
  have b : 2 ^ n ≤ 2 ^ 10 := Nat.pow_le_pow_right (by decide) hn
  have c : 2 ^ n * 6131066257801 ≤ 2 ^ 10 * 6131066257801 := Nat.mul_le_mul_right _ b
  omega
theorem o_pow_b {n t : Nat} (hn : n ≤ 10) (ht : 2 ≤ t ∧ t ≤ 20) : 0 < t ^ n ∧ t ^ n < 2 ^ 44 := by
  have a : t ^ n ≤ 20 ^ n := Nat.pow_le_pow_left ht.2 _
  have b : 20 ^ n ≤ 20 ^ 10 := Nat.pow_le_pow_right (by decide) hn
  have c : (20 : Nat) ^ 10 < 2 ^ 44 := by decide
  exact ⟨Nat.pow_pos (by omega), by omega⟩
/-- what is spare, by the class -/
theorem z_spare {k u v f : Nat} (hk : k * u < 2 ^ 30) (hv : v < 2 ^ 30) (hf : f < 2 ^ 30) : nI (k * u) > nI v - nI f ↔ ¬ f + k * u ≤ v := by
  have h1 : (nI v - nI f).toInt = (v : Int) - f := by
    rw [Int32.toInt_sub, nI_toInt (by omega), nI_toInt (by omega), Int.bmod_eq_of_le (by omega) (by omega)]
  show nI v - nI f < nI (k * u) ↔ _
  rw [Int32.lt_iff_toInt_lt, h1, nI_toInt (by omega)]
  omega
/-- the sums as the class makes them -/
def o_s (n t u v f p : Nat) : Nat := n_sum (fun k => chs n k * o_f n t u v f k) p
theorem o_s_y {n t u v f p : Nat} {w c : Int64} (h : f + p * u ≤ v) (hw : w = lN (o_s n t u v f p)) (hc : c = lN (chs n p)) : w + c * l_pow (lN (t - 1)) (n - p) = lN (o_s n t u v f (p + 1)) := by
  rw [hw, hc, l_pow_n, lN_mul, lN_add]
  refine congrArg lN ?_
  show _ = o_s n t u v f p + chs n p * o_f n t u v f p
  unfold o_f
  rw [if_pos h]
theorem o_s_n {n t u v f p : Nat} {w : Int64} (h : ¬ f + p * u ≤ v) (hw : w = lN (o_s n t u v f p)) : w = lN (o_s n t u v f (p + 1)) := by
  rw [hw]
  refine congrArg lN ?_
  show _ = o_s n t u v f p + chs n p * o_f n t u v f p
  unfold o_f
  rw [if_neg h]
  rfl
theorem o_ch {n p : Nat} {c : Int64} (hn : n ≤ 10) (hp : p ≤ n) (hc : c = lN (chs n p)) : c * lN (n - p) / lN (p + 1) = lN (chs n (p + 1)) := by
  obtain ⟨a, b⟩ := chs_st n (by omega) p (by omega) hp
  rw [hc, lN_mul, pk_lDiv (by omega) (by omega) (by omega), a]
/-- the common divisor, the class's steps: s of them, x and y then -/
def g_in (a b s x y : Nat) : Prop := Nat.gcd x y = Nat.gcd a b ∧ x < 2 ^ 63 ∧ y < 2 ^ 63 ∧ ((s = 0 ∧ y < 2 ^ 44) ∨ (1 ≤ s ∧ s ≤ 101 ∧ y < x ∧ x * y < 2 ^ (101 - s)))
theorem g_in_s {a b s x y : Nat} (h : g_in a b s x y) : s ≤ 101 := by rcases h.2.2.2 with q | q <;> omega
theorem g_in_st {a b s x y : Nat} (h : g_in a b s x y) (hy : y ≠ 0) : g_in a b (s + 1) y (x % y) := by
  obtain ⟨h1, h2, h3, h4⟩ := h
  have hm : x % y < y := Nat.mod_lt _ (by omega)
  refine ⟨?_, h3, by omega, Or.inr ?_⟩
  · rw [← h1, Nat.gcd_comm x y, Nat.gcd_rec y x, Nat.gcd_comm]
  · rcases h4 with ⟨h5, h6⟩ | ⟨h5, h6, h7, h8⟩
    · subst h5
      refine ⟨by omega, by omega, hm, ?_⟩
      have : y * (x % y) ≤ 2 ^ 44 * 2 ^ 44 := Nat.mul_le_mul (by omega) (by omega)
      have e : (2 : Nat) ^ (101 - (0 + 1)) = 2 ^ 100 := by decide
      rw [e]
      omega
    · have hs : s < 101 := by
        rcases Nat.lt_or_ge s 101 with q | q
        · exact q
        · exfalso
          have e : s = 101 := by omega
          subst e
          have : 1 ≤ x * y := Nat.mul_pos (by omega) (by omega)
          simp at h8
          omega
      refine ⟨by omega, by omega, hm, ?_⟩
      have hx : y + x % y ≤ x := by
        have e := Nat.div_add_mod x y
        have d : 1 ≤ x / y := Nat.div_pos (by omega) (by omega)
        have : y * 1 ≤ y * (x / y) := Nat.mul_le_mul_left y d
        omega
      have h9 : 2 * (y * (x % y)) ≤ x * y := by
        have : 2 * (x % y) ≤ x := by omega
        have := Nat.mul_le_mul_right y this
        rw [show 2 * (y * (x % y)) = 2 * (x % y) * y by rw [Nat.mul_comm y, Nat.mul_assoc]]
        exact this
      have e : 2 ^ (101 - s) = 2 * 2 ^ (101 - (s + 1)) := by
        rw [show 101 - s = (101 - (s + 1)) + 1 by omega, Nat.pow_succ, Nat.mul_comm]
      omega
/-- a part of a fraction in least terms -/
def q_part (a b : Nat) (part : Int32) : Int64 := lN ((if part = 0 then a else b) / Nat.gcd a b)
theorem q_part_c {a b : Nat} {part : Int32} {c : Int64} (hb : 0 < b) (ha : a < 2 ^ 63) (hb2 : b < 2 ^ 63) (hc : c = lN (Nat.gcd a b)) : ¬ c = 0 ∧ (part = 0 → lN a / c = q_part a b part) ∧ (¬ part = 0 → lN b / c = q_part a b part) := by
  have g0 : 0 < Nat.gcd a b := Nat.gcd_pos_of_pos_right _ hb
  have g1 : Nat.gcd a b ≤ b := Nat.gcd_le_right _ hb
  subst hc
  refine ⟨lN_nz g0 (by omega), fun h => ?_, fun h => ?_⟩
  · rw [pk_lDiv ha g0 (by omega)]
    unfold q_part
    rw [if_pos h]
  · rw [pk_lDiv hb2 g0 (by omega)]
    unfold q_part
    rw [if_neg h]
theorem q_part_0 {b : Nat} {part : Int32} (hb : 0 < b) (hb2 : b < 2 ^ 63) (hp : part = 0 ∨ part = 1) : part.toInt64 = q_part 0 b part := by
  unfold q_part
  rcases hp with rfl | rfl
  · rw [if_pos rfl, Nat.zero_div]
    rfl
  · rw [if_neg (by decide), Nat.gcd_zero_left, Nat.div_self hb]
    rfl
/-- which refusal of odds; 0: none -/
def f_odds (na : Nat) (a t u v : Int32) : Nat := if zin a na = false then 1 else if t < 2 ∨ u < 0 ∨ v < 0 then 4 else if 20 < t ∨ 99 < u ∨ 999 < v then 6 else 0
def z_wide (c : Int32) : Int64 := 4000000000000000000 - c.toInt64
def z_part (p : Int32) : Bool := decide (p = 0 ∨ p = 1)
def q_ml (r : Nat → Int32) (n a t u : Nat) : Nat := (q_fin r n a).toNatClampNeg * t + q_rides r n * u
def A_punc (r : Nat → Int32) (n na : Nat) (a t u v part : Int32) : Int64 × Nat :=
  if f_odds na a t u v = 1 then (z_wide (-1), 1) else if f_odds na a t u v = 4 then (z_wide (-4), 4) else if f_odds na a t u v = 6 then (z_wide (-6), 6) else if z_part part = false then (z_wide (-2), 2)
  else (q_part (o_ways (q_rides r n) (zix t) (zix u) (zix v) (q_fin r n (zix a)).toNatClampNeg) (zix t ^ q_rides r n) part, 0)
def A_mean (r : Nat → Int32) (n na : Nat) (a t u part : Int32) : Int64 × Nat :=
  if f_odds na a t u 0 = 1 then (z_wide (-1), 1) else if f_odds na a t u 0 = 4 then (z_wide (-4), 4) else if f_odds na a t u 0 = 6 then (z_wide (-6), 6) else if z_part part = false then (z_wide (-2), 2)
  else (q_part (q_ml r n (zix a) (zix t) (zix u)) (zix t) part, 0)
def A_tube (r : Nat → Int32) (n na : Nat) (a t u : Int32) : Int32 × Nat :=
  if f_odds na a t u 0 = 1 then (-1, 1) else if f_odds na a t u 0 = 4 then (-4, 4) else if f_odds na a t u 0 = 6 then (-6, 6)
  else (if 60 * zix t + 10 * q_rides r n < zix u * q_rides r n then 1 else 0, 0)
def zLc (A : Int64 × Nat) (G : zG) (r : Int64) (G1 : zG) : Prop := A.1 = r ∧ (∀ k, (k < 47 ∨ 91 < k) → G1 k = G k) ∧ G1 47 = zrf (G 47) A.2 ∧ zPl G1
def zLm (A : Int64 × Nat) (G : zG) (r : Int64) (G1 : zG) : Prop := A.1 = r ∧ (∀ k, (k < 94 ∨ (95 ≤ k ∧ k ≤ 98)) → G1 k = G k) ∧ G1 99 = zrf (G 99) A.2
theorem zLc_of {A : Int64 × Nat} {G G1 : zG} {v : Int64} {k : Nat} (hA : A = (v, k)) (hF : ∀ k, (k < 47 ∨ 91 < k) → G1 k = G k) (hk : G1 47 = zrf (G 47) k) (hp : zPl G1) : zLc A G v G1 := by
  subst hA
  exact ⟨rfl, hF, hk, hp⟩
theorem zLm_of {A : Int64 × Nat} {G G1 : zG} {v : Int64} {k : Nat} (hA : A = (v, k)) (hF : ∀ k, (k < 94 ∨ (95 ≤ k ∧ k ≤ 98)) → G1 k = G k) (hk : G1 99 = zrf (G 99) k) : zLm A G v G1 := by
  subst hA
  exact ⟨rfl, hF, hk⟩
theorem q_fin_e {r : Nat → Int32} {n na a : Nat} (hV : zVr r n na) (ha : a < na) (hn : n ≤ 10) : ∃ f : Nat, f ≤ 4000 ∧ q_fin r n a = nI f ∧ (q_fin r n a).toNatClampNeg = f := by
  obtain ⟨s, hs, e⟩ := fin_b (d := -1) hV.1 (hV.2 a ha) hn
  have e2 : q_fin r n a = nI s := e
  exact ⟨s, hs, e2, by rw [e2]; exact nI_clamp (by omega)⟩
/-- no refusal: all are as they must be -/
theorem f_odds_0 {na : Nat} {a t u v : Int32} (hna : na ≤ 5) (h0 : zin a na = true) (h1 : ¬ t < 2) (h2 : ¬ u < 0) (h3 : ¬ v < 0) (h4 : ¬ 20 < t) (h5 : ¬ 99 < u) (h6 : ¬ 999 < v) : f_odds na a t u v = 0 ∧ (∃ j : Nat, (2 ≤ j ∧ j ≤ 20) ∧ t = nI j) ∧ (∃ j : Nat, j ≤ 99 ∧ u = nI j) ∧ ∃ j : Nat, j ≤ 999 ∧ v = nI j := by
  refine ⟨?_, ?_, ?_, ?_⟩
  · unfold f_odds
    rw [h0, if_neg (by decide), if_neg (by rintro (q | q | q); exact h1 q; exact h2 q; exact h3 q), if_neg (by rintro (q | q | q); exact h4 q; exact h5 q; exact h6 q)]
  · have hp : ¬ t < 0 := fun q => h1 (Int32.lt_trans q (by decide))
    obtain ⟨j, hj, rfl⟩ := z_rng (m := 21) hp (Int32.not_lt.mp h4) rfl (by decide)
    refine ⟨j, ⟨?_, by omega⟩, rfl⟩
    rcases Nat.lt_or_ge j 2 with q | q
    · exact absurd (nI_lt q (by decide)) h1
    · exact q
  · obtain ⟨j, hj, rfl⟩ := z_rng (m := 100) h2 (Int32.not_lt.mp h5) rfl (by decide)
    exact ⟨j, by omega, rfl⟩
  · obtain ⟨j, hj, rfl⟩ := z_rng (m := 1000) h3 (Int32.not_lt.mp h6) rfl (by decide)
    exact ⟨j, by omega, rfl⟩
theorem f_odds_1 {na : Nat} {a t u v : Int32} (h : zin a na = false) : f_odds na a t u v = 1 := if_pos h
theorem f_odds_4 {na : Nat} {a t u v : Int32} (h : zin a na = true) (h2 : t < 2 ∨ u < 0 ∨ v < 0) : f_odds na a t u v = 4 := by
  unfold f_odds
  rw [h, if_neg (by decide), if_pos h2]
theorem f_odds_6 {na : Nat} {a t u v : Int32} (h : zin a na = true) (h1 : ¬ t < 2) (h2 : ¬ u < 0) (h3 : ¬ v < 0) (h4 : 20 < t ∨ 99 < u ∨ 999 < v) : f_odds na a t u v = 6 := by
  unfold f_odds
  rw [h, if_neg (by decide), if_neg (by rintro (q | q | q); exact h1 q; exact h2 q; exact h3 q), if_pos h4]
theorem z_part_n {p : Int32} (h : ¬ p = 0) (h2 : ¬ p = 1) : z_part p = false := decide_eq_false fun q => q.elim h h2
theorem z_part_i {p : Int32} (h : 0 ≤ p) (h2 : p ≤ 1) : p = 0 ∨ p = 1 := by
  obtain ⟨j, hj, rfl⟩ := z_rng (m := 2) (Int32.not_lt.mpr h) h2 rfl (by decide)
  rcases (show j = 0 ∨ j = 1 by omega) with rfl | rfl
  · exact Or.inl rfl
  · exact Or.inr rfl
theorem z_part_o {p : Int32} (h : ¬ (0 ≤ p ∧ p ≤ 1)) : z_part p = false := decide_eq_false fun q => h (by rcases q with rfl | rfl <;> decide)
theorem lg_z {x : Nat} (hx : x < 2 ^ 63) : (lg_cmp (lN x) 0 = 0) ↔ x = 0 := (lg_cmp_eq _ _).trans (pk_lEQ (b := 0) hx (by decide))
/-- the sum over all sets, as the reference makes it -/
theorem o_w_st {t s k : Nat} (ht : 2 ≤ t) : (t - 1) ^ (k - pcs s k) * (if s / 2 ^ k % 2 = 1 then 1 else t - 1) = (t - 1) ^ (k + 1 - pcs s (k + 1)) := by
  have hp := pcs_le s k
  show _ = (t - 1) ^ (k + 1 - (pcs s k + s / 2 ^ k % 2))
  split
  · rename_i h
    rw [h, Nat.mul_one, show k + 1 - (pcs s k + 1) = k - pcs s k by omega]
  · rename_i h
    rw [show s / 2 ^ k % 2 = 0 by omega, show k + 1 - (pcs s k + 0) = (k - pcs s k) + 1 by omega, Nat.pow_succ]
theorem z_bit {s k : Nat} (hs : s < 2 ^ 31) (hk : k < 31) : (nI s >>> (nI k &&& 31)) &&& 1 = nI (s / 2 ^ k % 2) := by
  have e : nI k &&& 31 = nI k := by
    rcases (show k = 0 ∨ k = 1 ∨ k = 2 ∨ k = 3 ∨ k = 4 ∨ k = 5 ∨ k = 6 ∨ k = 7 ∨ k = 8 ∨ k = 9 ∨ k = 10 ∨ k = 11 ∨ k = 12 ∨ k = 13 ∨ k = 14 ∨ k = 15 ∨ k = 16 ∨ k = 17 ∨ k = 18 ∨ k = 19 ∨ k = 20 ∨ k = 21 ∨ k = 22 ∨ k = 23 ∨ k = 24 ∨ k = 25 ∨ k = 26 ∨ k = 27 ∨ k = 28 ∨ k = 29 ∨ k = 30 by omega) with h | h | h | h | h | h | h | h | h | h | h | h | h | h | h | h | h | h | h | h | h | h | h | h | h | h | h | h | h | h | h <;> subst h <;> decide
  have e2 : (Int32.toBitVec (nI k)).smod 32 = BitVec.ofNat 32 k := by
    rcases (show k = 0 ∨ k = 1 ∨ k = 2 ∨ k = 3 ∨ k = 4 ∨ k = 5 ∨ k = 6 ∨ k = 7 ∨ k = 8 ∨ k = 9 ∨ k = 10 ∨ k = 11 ∨ k = 12 ∨ k = 13 ∨ k = 14 ∨ k = 15 ∨ k = 16 ∨ k = 17 ∨ k = 18 ∨ k = 19 ∨ k = 20 ∨ k = 21 ∨ k = 22 ∨ k = 23 ∨ k = 24 ∨ k = 25 ∨ k = 26 ∨ k = 27 ∨ k = 28 ∨ k = 29 ∨ k = 30 by omega) with h | h | h | h | h | h | h | h | h | h | h | h | h | h | h | h | h | h | h | h | h | h | h | h | h | h | h | h | h | h | h <;> subst h <;> decide
  rw [e, pk_shrN hs (nI k) k (by rw [e2, BitVec.toNat_ofNat]; omega)]
  have h1 := Nat.div_le_self s (2 ^ k)
  generalize s / 2 ^ k = m at h1
  refine Int32.toBitVec_inj.mp (BitVec.eq_of_toNat_eq ?_)
  rw [Int32.toBitVec_and, BitVec.toNat_and]
  have a1 : ∀ j, j < 2 ^ 31 → (nI j).toBitVec.toNat = j := fun j hj => by
    show (BitVec.ofNat 32 j).toNat = j
    rw [BitVec.toNat_ofNat]
    omega
  rw [a1 m (by omega), a1 (m % 2) (by omega)]
  exact Nat.and_one_is_mod m
theorem z_shl1 {k : Nat} (hk : k < 31) : (1 : Int32) <<< (nI k &&& 31) = nI (2 ^ k) := by
  rcases (show k = 0 ∨ k = 1 ∨ k = 2 ∨ k = 3 ∨ k = 4 ∨ k = 5 ∨ k = 6 ∨ k = 7 ∨ k = 8 ∨ k = 9 ∨ k = 10 ∨ k = 11 ∨ k = 12 ∨ k = 13 ∨ k = 14 ∨ k = 15 ∨ k = 16 ∨ k = 17 ∨ k = 18 ∨ k = 19 ∨ k = 20 ∨ k = 21 ∨ k = 22 ∨ k = 23 ∨ k = 24 ∨ k = 25 ∨ k = 26 ∨ k = 27 ∨ k = 28 ∨ k = 29 ∨ k = 30 by omega) with h | h | h | h | h | h | h | h | h | h | h | h | h | h | h | h | h | h | h | h | h | h | h | h | h | h | h | h | h | h | h <;> subst h <;> decide
/-- sums over sets so far -/
def o_a (n t u v f s : Nat) : Nat := n_sum (fun x => o_f n t u v f (pcs x n)) s
theorem o_a_end {n t u v f s : Nat} (h : s = 2 ^ n) : o_a n t u v f s = o_ways n t u v f := by
  subst h
  exact pcs_sum n (o_f n t u v f)
theorem o_a_y {n t u v f s : Nat} {w : Int64} (hw : w = lN (o_a n t u v f s)) (h : f + pcs s n * u ≤ v) : w + lN ((t - 1) ^ (n - pcs s n)) = lN (o_a n t u v f (s + 1)) := by
  rw [hw, lN_add]
  refine congrArg lN ?_
  show _ = o_a n t u v f s + o_f n t u v f (pcs s n)
  unfold o_f
  rw [if_pos h]
theorem o_a_n {n t u v f s : Nat} {w : Int64} (hw : w = lN (o_a n t u v f s)) (h : ¬ f + pcs s n * u ≤ v) : w + 0 = lN (o_a n t u v f (s + 1)) := by
  rw [hw, show (0 : Int64) = lN 0 from rfl, lN_add]
  refine congrArg lN ?_
  show _ = o_a n t u v f s + o_f n t u v f (pcs s n)
  unfold o_f
  rw [if_neg h]
theorem o_wy {t s k : Nat} {w : Int64} (ht : 2 ≤ t) (hw : w = lN ((t - 1) ^ (k - pcs s k))) (h : s / 2 ^ k % 2 = 1) : w * 1 = lN ((t - 1) ^ (k + 1 - pcs s (k + 1))) := by
  have e := o_w_st (t := t) (s := s) (k := k) ht
  rw [if_pos h] at e
  rw [hw, show (1 : Int64) = lN 1 from rfl, lN_mul, e]
theorem o_wn {t s k : Nat} {w : Int64} (ht : 2 ≤ t) (hw : w = lN ((t - 1) ^ (k - pcs s k))) (h : ¬ s / 2 ^ k % 2 = 1) : w * lN (t - 1) = lN ((t - 1) ^ (k + 1 - pcs s (k + 1))) := by
  have e := o_w_st (t := t) (s := s) (k := k) ht
  rw [if_neg h] at e
  rw [hw, lN_mul, e]
theorem pcs_y {s k u m : Nat} (hm : m = pcs s k * u) (h : s / 2 ^ k % 2 = 1) : m + u = pcs s (k + 1) * u := by
  show _ = (pcs s k + s / 2 ^ k % 2) * u
  rw [h, hm, Nat.add_mul, Nat.one_mul]
theorem pcs_n {s k u m : Nat} (hm : m = pcs s k * u) (h : ¬ s / 2 ^ k % 2 = 1) : m + 0 = pcs s (k + 1) * u := by
  show _ = (pcs s k + s / 2 ^ k % 2) * u
  rw [show s / 2 ^ k % 2 = 0 by omega, hm]
  rfl
