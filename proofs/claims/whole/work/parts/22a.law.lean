/-! the law's relation: the class and the reference hold the same -/
def zLaw (G : zG) : Prop := (∃ n na, zRw (G 93) n na ∧ zFA G 1 (G 93) n na) ∧ zPl G ∧ G 47 = G 99 ∧ G 0 2 = G 92 4 ∧ (¬ G 0 2 = 0 → ∃ n na, zRw (G 95) n na ∧ zFA G 22 (G 95) n na) ∧ (∃ K, K ≤ 96 ∧ G 43 0 = nI K ∧ G 92 8 = nI K) ∧ G 44 = G 97 ∧ (∃ m, m ≤ 12 ∧ G 45 0 = nI m ∧ G 92 9 = nI m) ∧ G 46 = G 98
theorem zRw_r {r q : Nat → Int32} {n na : Nat} (h : zRw r n na) (e : ∀ j, j < 102 → q j = r j) : zRw q n na := by
  obtain ⟨h0, h1, hn, hna, hs, ha⟩ := h
  exact ⟨(e 0 (by omega)).trans h0, (e 1 (by omega)).trans h1, hn, hna, zVs_hi hs hn (fun x _ hx => e x (by omega)), fun a haa => zVa_e (ha a haa) (fun w hw => e _ (by omega)) (fun i hi => e _ (by omega))⟩
theorem zFA_22 {G G1 : zG} {r : Nat → Int32} {n na : Nat} (h : zFA G 22 r n na) (hF : ∀ k, k < 47 → G1 k = G k) (hna : na ≤ 5) : zFA G1 22 r n na := zFA_fr22 h (fun k hk => hF k (by omega)) hna
/-- all as it was, but what no relation speaks of -/
theorem zLaw_k {G G2 : zG} (h : zLaw G) (a : ∀ k, k < 47 → G2 k = G k) (b : ∀ x, x < 13 → G2 92 x = G 92 x) (c3 : G2 93 = G 93) (c5 : G2 95 = G 95) (c7 : G2 97 = G 97) (c8 : G2 98 = G 98) (h47 : G2 47 = G2 99) (hp : zPl G2) : zLaw G2 := by
  obtain ⟨⟨n, na, hw, hR⟩, -, -, h02, him, ⟨K, k1, k2, k3⟩, h44, ⟨m, m1, m2, m3⟩, h46⟩ := h
  unfold zLaw
  rw [c3, c5, c7, c8, a 0 (by decide), a 43 (by decide), a 44 (by decide), a 45 (by decide), a 46 (by decide), b 4 (by decide), b 8 (by decide), b 9 (by decide)]
  exact ⟨⟨n, na, hw, zFA_fr hR (fun k hk => a k (by omega)) hw.2.2.2.1⟩, hp, h47, h02, fun q => by
    obtain ⟨n2, na2, w2, f2⟩ := him q
    exact ⟨n2, na2, w2, zFA_22 f2 a w2.2.2.2.1⟩, ⟨K, k1, k2, k3⟩, h44, ⟨m, m1, m2, m3⟩, h46⟩
theorem zrf_c {f g : Nat → Int32} (h : f = g) (k : Nat) : zrf f k = zrf g k := by rw [h]
theorem zLaw_q {A B : Int32 × Nat} {G G1 G2 : zG} {x y : Int32} (h : zLaw G) (h1 : zQc A G x G1) (h2 : zQm B G1 y G2) (e : A = B) : x = y ∧ zLaw G2 := by
  subst e
  obtain ⟨a1, a2, a3, a4⟩ := h1
  obtain ⟨b1, b2, b3⟩ := h2
  have h47 := h.2.2.1
  refine ⟨a1.symm.trans b1, zLaw_k h (fun k hk => (b2 k (by omega)).trans (a2 k (by omega))) (fun z _ => congrFun ((b2 92 (by omega)).trans (a2 92 (by omega))) z) ((b2 93 (by omega)).trans (a2 93 (by omega))) ((b2 95 (by omega)).trans (a2 95 (by omega))) ((b2 97 (by omega)).trans (a2 97 (by omega))) ((b2 98 (by omega)).trans (a2 98 (by omega))) ?_ (z_plk (b2 70 (by omega)) a4)⟩
  rw [b2 47 (by omega), a3, b3, a2 99 (by omega), h47]
theorem zLaw_s {A B : Int32 × Nat} {G G1 G2 : zG} {x y : Int32} (h : zLaw G) (h1 : zQc A G x G1) (h2 : zQs B G1 y G2) (e : A = B) : x = y ∧ zLaw G2 := by
  subst e
  obtain ⟨a1, a2, a3, a4⟩ := h1
  obtain ⟨b1, b2, b4, b3⟩ := h2
  have h47 := h.2.2.1
  refine ⟨a1.symm.trans b1, zLaw_k h (fun k hk => (b2 k (by omega)).trans (a2 k (by omega))) (fun z hz => (b4 z hz).trans (congrFun (a2 92 (by omega)) z)) ((b2 93 (by omega)).trans (a2 93 (by omega))) ((b2 95 (by omega)).trans (a2 95 (by omega))) ((b2 97 (by omega)).trans (a2 97 (by omega))) ((b2 98 (by omega)).trans (a2 98 (by omega))) ?_ (z_plk (b2 70 (by omega)) a4)⟩
  rw [b2 47 (by omega), a3, b3, a2 99 (by omega), h47]
theorem zLaw_l {A B : Int64 × Nat} {G G1 G2 : zG} {x y : Int64} (h : zLaw G) (h1 : zLc A G x G1) (h2 : zLm B G1 y G2) (e : A = B) : x = y ∧ zLaw G2 := by
  subst e
  obtain ⟨a1, a2, a3, a4⟩ := h1
  obtain ⟨b1, b2, b3⟩ := h2
  have h47 := h.2.2.1
  refine ⟨a1.symm.trans b1, zLaw_k h (fun k hk => (b2 k (by omega)).trans (a2 k (by omega))) (fun z _ => congrFun ((b2 92 (by omega)).trans (a2 92 (by omega))) z) ((b2 93 (by omega)).trans (a2 93 (by omega))) ((b2 95 (by omega)).trans (a2 95 (by omega))) ((b2 97 (by omega)).trans (a2 97 (by omega))) ((b2 98 (by omega)).trans (a2 98 (by omega))) ?_ (z_plk (b2 70 (by omega)) a4)⟩
  rw [b2 47 (by omega), a3, b3, a2 99 (by omega), h47]
theorem zLaw_u {A B : Int32 × Nat × (Nat → Int32)} {G G1 G2 : zG} {x y : Int32} {n na : Nat} (h : zLaw G) (h1 : zUc A n na G x G1) (h2 : zUm B G1 y G2) (e : A = B) (hw : zRw A.2.2 n na) : x = y ∧ zLaw G2 := by
  subst e
  obtain ⟨a1, a2, a5, a3, a4⟩ := h1
  obtain ⟨b1, b2, b5, b3⟩ := h2
  obtain ⟨-, -, h47, h02, him, ⟨K, k1, k2, k3⟩, h44, ⟨m, m1, m2, m3⟩, h46⟩ := h
  have f : ∀ k, (k = 0 ∨ (21 < k ∧ k < 47) ∨ (91 < k ∧ k < 93) ∨ (95 ≤ k ∧ k ≤ 98)) → G2 k = G k := fun k hk => (b2 k (by omega)).trans (a2 k (by omega))
  refine ⟨a1.symm.trans b1, ?_⟩
  unfold zLaw
  rw [b5, f 0 (by decide), f 43 (by decide), f 44 (by decide), f 45 (by decide), f 46 (by decide), f 92 (by decide), f 95 (by decide), f 97 (by decide), f 98 (by decide)]
  refine ⟨⟨n, na, hw, zFA_fr a5 (fun k hk => b2 k (by omega)) hw.2.2.2.1⟩, z_plk (b2 70 (by omega)) a4, ?_, h02, fun q => ?_, ⟨K, k1, k2, k3⟩, h44, ⟨m, m1, m2, m3⟩, h46⟩
  · rw [b2 47 (by omega), a3, b3, a2 99 (by omega), h47]
  · obtain ⟨n2, na2, w2, f2⟩ := him q
    exact ⟨n2, na2, w2, zFA_fr22 f2 (fun k hk => f k (by omega)) w2.2.2.2.1⟩
theorem zLaw_r {A B : Int32 × Nat × Nat × (Nat → Int32)} {G G1 G2 : zG} {x y : Int32} (h : zLaw G) (h1 : zRc A G x G1) (h2 : zRm B G1 y G2) (e : A = B) (hA : A.2.2.1 ≤ 12) : x = y ∧ zLaw G2 := by
  subst e
  obtain ⟨a1, a2, a5, a6, a3, a4⟩ := h1
  obtain ⟨b1, b2, b4, b5, b6, b3⟩ := h2
  obtain ⟨⟨n, na, hw, hR⟩, -, h47, h02, him, ⟨K, k1, k2, k3⟩, h44, -, -⟩ := h
  have f : ∀ k, (k < 45 ∨ k = 93 ∨ (95 ≤ k ∧ k ≤ 97)) → G2 k = G k := fun k hk => (b2 k (by omega)).trans (a2 k (by omega))
  have g : ∀ z, z ≠ 9 → G2 92 z = G 92 z := fun z hz => (b4 z hz).trans (congrFun (a2 92 (by omega)) z)
  refine ⟨a1.symm.trans b1, ?_⟩
  unfold zLaw
  rw [f 93 (by decide), f 0 (by decide), f 43 (by decide), f 44 (by decide), f 95 (by decide), f 97 (by decide), g 4 (by decide), g 8 (by decide), b6, b2 46 (by decide), a6]
  refine ⟨⟨n, na, hw, zFA_fr hR (fun k hk => f k (by omega)) hw.2.2.2.1⟩, z_plk (b2 70 (by omega)) a4, ?_, h02, fun q => ?_, ⟨K, k1, k2, k3⟩, h44, ⟨A.2.2.1, hA, ?_, b5⟩, rfl⟩
  · rw [b2 47 (by omega), a3, b3, a2 99 (by omega), h47]
  · obtain ⟨n2, na2, w2, f2⟩ := him q
    exact ⟨n2, na2, w2, zFA_fr22 f2 (fun k hk => f k (by omega)) w2.2.2.2.1⟩
  · rw [b2 45 (by decide)]; exact a5
theorem zLaw_t {A B : Int32 × Nat × Nat × (Nat → Int32)} {G G1 G2 : zG} {x y : Int32} (h : zLaw G) (h1 : zTc A G x G1) (h2 : zTm B G1 y G2) (e : A = B) (hA : A.2.2.1 ≤ 96) : x = y ∧ zLaw G2 := by
  subst e
  obtain ⟨a1, a2, a5, a6, a3, a4⟩ := h1
  obtain ⟨b1, b2, b4, b5, b6, b3⟩ := h2
  obtain ⟨⟨n, na, hw, hR⟩, -, h47, h02, him, -, -, ⟨m, m1, m2, m3⟩, h46⟩ := h
  have f : ∀ k, (k < 43 ∨ (44 < k ∧ k < 47) ∨ k = 93 ∨ k = 95 ∨ k = 98) → G2 k = G k := fun k hk => (b2 k (by omega)).trans (a2 k (by omega))
  have g : ∀ z, z ≠ 8 → G2 92 z = G 92 z := fun z hz => (b4 z hz).trans (congrFun (a2 92 (by omega)) z)
  refine ⟨a1.symm.trans b1, ?_⟩
  unfold zLaw
  rw [f 93 (by decide), f 0 (by decide), f 45 (by decide), f 46 (by decide), f 95 (by decide), f 98 (by decide), g 4 (by decide), g 9 (by decide), b6, b2 44 (by decide), a6]
  refine ⟨⟨n, na, hw, zFA_fr hR (fun k hk => f k (by omega)) hw.2.2.2.1⟩, z_plk (b2 70 (by omega)) a4, ?_, h02, fun q => ?_, ⟨A.2.2.1, hA, ?_, b5⟩, rfl, ⟨m, m1, m2, m3⟩, h46⟩
  · rw [b2 47 (by omega), a3, b3, a2 99 (by omega), h47]
  · obtain ⟨n2, na2, w2, f2⟩ := him q
    exact ⟨n2, na2, w2, zFA_fr22 f2 (fun k hk => f k (by omega)) w2.2.2.2.1⟩
  · rw [b2 43 (by decide)]; exact a5
theorem R_letter_k {k : Nat} {w : Nat → Int32} {v : Int32} (h : k ≤ 96) : (R_letter k w v).2.2.1 ≤ 96 := by
  unfold R_letter
  split
  · exact h
  · split
    · exact h
    · rename_i q
      show k + 1 ≤ 96
      omega
theorem R_row_k {k : Nat} {w : Nat → Int32} {v : Int32} (h : k ≤ 12) : (R_row k w v).2.2.1 ≤ 12 := by
  unfold R_row
  split
  · exact h
  · split
    · exact h
    · rename_i q
      show k + 1 ≤ 12
      omega
theorem R_judge_k {r : Nat → Int32} {n na m : Nat} {w : Nat → Int32} {a : Int32} (h : m ≤ 12) : (R_judge r n na m w a).2.2.1 ≤ 12 := by
  unfold R_judge
  split
  · exact h
  · exact Nat.zero_le _
theorem zix_in {i : Int32} {n : Nat} (h : ¬ zin i n = false) (hn : n < 2 ^ 31) : zix i < n ∧ i = nI (zix i) := by
  have h2 : zin i n = true := by
    cases q : zin i n
    · exact absurd q h
    · rfl
  unfold zin at h2
  simp at h2
  have h0 : ¬ i < 0 := fun q => by
    have := Int32.lt_iff_toInt_lt.mp q
    simp at this
    omega
  obtain ⟨j, hj, rfl⟩ := nI_of h0
  rw [nI_toInt hj] at h2
  rw [zix_n hj]
  exact ⟨by omega, rfl⟩
theorem u_turn_k {r : Nat → Int32} {n na : Nat} {i k f : Int32} (h : zRw r n na) : zRw (U_turn r n i k f).2.2 n na := by
  unfold U_turn
  split
  · exact h
  · rename_i hz
    split
    · exact h
    · rename_i hk
      split
      · exact h
      · rename_i hf
        split
        · exact h
        · rename_i hf9
          obtain ⟨h0, h1, hn, hna, hs, ha⟩ := h
          obtain ⟨zl, -⟩ := zix_in hz (by omega)
          obtain ⟨k', hk', ek⟩ := z_rng (m := 7) (fun q => hk (Or.inl q)) (Int32.not_lt.mp (fun q => hk (Or.inr q))) rfl (by decide)
          obtain ⟨f', hf', ef⟩ := z_rng (m := 10) hf (Int32.not_lt.mp hf9) rfl (by decide)
          show zRw (upd (upd r (2 + 3 * zix i) k) (3 + 3 * zix i) f) n na
          refine ⟨by rw [pk_un (by omega), pk_un (by omega)]; exact h0, by rw [pk_un (by omega), pk_un (by omega)]; exact h1, hn, hna, fun j hj => ?_, fun a haa => zVa_e (ha a haa) (fun w hw => by rw [pk_un (by omega), pk_un (by omega)]) (fun i hi => by rw [pk_un (by omega), pk_un (by omega)])⟩
          obtain ⟨a, b, c, q1, q2, q3, q4, q5, q6, q7⟩ := hs j hj
          by_cases e : j = zix i
          · refine ⟨k', f', c, hk', by omega, q3, q4, ?_, ?_, ?_⟩
            · rw [pk_un (by omega), e, pk_us]; exact ek
            · rw [e, pk_us]; exact ef
            · rw [pk_un (by omega), pk_un (by omega)]; exact q7
          · refine ⟨a, b, c, q1, q2, q3, q4, ?_, ?_, ?_⟩
            · rw [pk_un (by omega), pk_un (by omega)]; exact q5
            · rw [pk_un (by omega), pk_un (by omega)]; exact q6
            · rw [pk_un (by omega), pk_un (by omega)]; exact q7
theorem u_swap_k {r : Nat → Int32} {n na : Nat} {i j : Int32} (h : zRw r n na) : zRw (U_swap r n i j).2.2 n na := by
  unfold U_swap
  split
  · exact h
  · rename_i hz
    obtain ⟨h0, h1, hn, hna, hs, ha⟩ := h
    obtain ⟨z1, e1⟩ := zix_in (fun q => hz (Or.inl q)) (show n < 2 ^ 31 by omega)
    obtain ⟨z2, e2⟩ := zix_in (fun q => hz (Or.inr (Or.inl q))) (show n < 2 ^ 31 by omega)
    have ne : zix i ≠ zix j := fun q => hz (Or.inr (Or.inr (by rw [e1, e2, q])))
    show zRw (s_chg r (zix i) (zix j) 3) n na
    have ch : ∀ x, (x < 2 ∨ 32 ≤ x) → s_chg r (zix i) (zix j) 3 x = r x := fun x hx => s_chg_out (by omega) (by omega) hx
    refine ⟨by rw [ch 0 (by omega)]; exact h0, by rw [ch 1 (by omega)]; exact h1, hn, hna, fun k hk => ?_, fun a haa => zVa_e (ha a haa) (fun w hw => ch _ (by omega)) (fun i hi => ch _ (by omega))⟩
    obtain ⟨x, hx, q1, q2, q3⟩ := s_chg_sec (r := r) z1 z2 ne k hk
    obtain ⟨a, b, c, a1, a2, a3, a4, a5, a6, a7⟩ := hs x hx
    exact ⟨a, b, c, a1, a2, a3, a4, q1.trans a5, q2.trans a6, q3.trans a7⟩
theorem u_skill_k {r : Nat → Int32} {n na : Nat} {i w v : Int32} (h : zRw r n na) : zRw (U_skill r na i w v).2.2 n na := by
  unfold U_skill
  split
  · exact h
  · rename_i hz
    split
    · exact h
    · rename_i hw
      split
      · exact h
      · rename_i hv
        by_cases hv9 : (if w = 3 then (99 : Int32) else 9) < v
        · rw [if_pos hv9]; exact h
        · rw [if_neg hv9]
          obtain ⟨h0, h1, hn, hna, hs, ha⟩ := h
          obtain ⟨zl, -⟩ := zix_in hz (by omega)
          obtain ⟨x, hx, rfl⟩ := z_rng (m := 4) (fun q => hw (Or.inl q)) (Int32.not_lt.mp (fun q => hw (Or.inr q))) rfl (by decide)
          show zRw (upd r (32 + 4 * zix i + zix (nI x)) v) n na
          rw [zix_n (by omega)]
          refine ⟨by rw [pk_un (by omega)]; exact h0, by rw [pk_un (by omega)]; exact h1, hn, hna, zVs_hi hs hn (fun y _ hy => pk_un (by omega)), fun a haa => ?_⟩
          have hold := ha a haa
          by_cases e : a = zix i
          · subst e
            refine ⟨fun y hy => ?_, ?_, fun j hj => ?_⟩
            · by_cases c : y = x
              · subst c
                rw [pk_us]
                rw [if_neg (fun q => by have := (nI_eq (b := 3) (show y < 2 ^ 31 by omega) (by decide)).mp q; omega)] at hv9
                obtain ⟨s, hs9, es⟩ := z_rng (m := 10) hv (Int32.not_lt.mp hv9) rfl (by decide)
                exact ⟨s, by omega, es⟩
              · rw [pk_un (by omega)]; exact hold.1 y hy
            · by_cases c : x = 3
              · subst c
                rw [if_pos (show nI 3 = 3 from rfl)] at hv9
                obtain ⟨s, hs9, es⟩ := z_rng (m := 100) hv (Int32.not_lt.mp hv9) rfl (by decide)
                refine ⟨s, by omega, ?_⟩
                rw [show 32 + 4 * zix i + 3 = 35 + 4 * zix i by omega, pk_us]
                exact es
              · rw [pk_un (by omega)]; exact hold.2.1
            · rw [pk_un (by omega)]; exact hold.2.2 j hj
          · exact zVa_e hold (fun y hy => pk_un (by omega)) (fun j hj => pk_un (by omega))
theorem u_tryHard_k {r : Nat → Int32} {n na : Nat} {a i v : Int32} (h : zRw r n na) : zRw (U_tryHard r n na a i v).2.2 n na := by
  unfold U_tryHard
  split
  · exact h
  · rename_i hz
    split
    · exact h
    · rename_i hv
      split
      · exact h
      · rename_i hv3
        obtain ⟨h0, h1, hn, hna, hs, ha⟩ := h
        obtain ⟨z1, -⟩ := zix_in (fun q => hz (Or.inl q)) (show na < 2 ^ 31 by omega)
        obtain ⟨z2, -⟩ := zix_in (fun q => hz (Or.inr q)) (show n < 2 ^ 31 by omega)
        obtain ⟨s, hs9, es⟩ := z_rng (m := 4) hv (Int32.not_lt.mp hv3) rfl (by decide)
        show zRw (upd r (52 + 10 * zix a + zix i) v) n na
        refine ⟨by rw [pk_un (by omega)]; exact h0, by rw [pk_un (by omega)]; exact h1, hn, hna, zVs_hi hs hn (fun y _ hy => pk_un (by omega)), fun b hb => ?_⟩
        have hold := ha b hb
        refine ⟨fun y hy => by rw [pk_un (by omega)]; exact hold.1 y hy, by rw [pk_un (by omega)]; exact hold.2.1, fun j hj => ?_⟩
        by_cases c : 52 + 10 * b + j = 52 + 10 * zix a + zix i
        · rw [c, pk_us]
          exact ⟨s, by omega, es⟩
        · rw [pk_un c]; exact hold.2.2 j hj
theorem nI_ex (x : Int32) : ∃ m : Nat, x = nI m := ⟨x.toBitVec.toNat, by
  refine Int32.toBitVec_inj.mp (BitVec.eq_of_toNat_eq ?_)
  show _ = (BitVec.ofNat 32 _).toNat
  rw [BitVec.toNat_ofNat]
  have := x.toBitVec.isLt
  omega⟩
theorem zLaw_c {G G1 G2 : zG} {m : Nat} {x y : Int32} (h : zLaw G) (h1 : nI m = x ∧ (∀ k, (k < 45 ∨ 45 < k) → G1 k = G k) ∧ G1 45 = upd (G 45) 0 0) (h2 : nI m = y ∧ (∀ k, (k < 92 ∨ 92 < k) → G2 k = G1 k) ∧ G2 92 = upd (G1 92) 9 0) : x = y ∧ zLaw G2 := by
  obtain ⟨a1, a2, a3⟩ := h1
  obtain ⟨b1, b2, b3⟩ := h2
  obtain ⟨⟨n, na, hw, hR⟩, hp, h47, h02, him, ⟨K, k1, k2, k3⟩, h44, -, h46⟩ := h
  have f : ∀ k, (k < 45 ∨ 45 < k) → (k < 92 ∨ 92 < k) → G2 k = G k := fun k h1 h2 => (b2 k h2).trans (a2 k h1)
  have g : ∀ z, z ≠ 9 → G2 92 z = G 92 z := fun z hz => by rw [b3, pk_un hz, a2 92 (by omega)]
  refine ⟨a1.symm.trans b1, ?_⟩
  unfold zLaw
  rw [f 93 (by decide) (by decide), f 0 (by decide) (by decide), f 43 (by decide) (by decide), f 44 (by decide) (by decide), f 46 (by decide) (by decide), f 47 (by decide) (by decide), f 99 (by decide) (by decide), f 95 (by decide) (by decide), f 97 (by decide) (by decide), f 98 (by decide) (by decide), g 4 (by decide), g 8 (by decide)]
  refine ⟨⟨n, na, hw, zFA_fr hR (fun k hk => f k (by omega) (by omega)) hw.2.2.2.1⟩, z_plk (f 70 (by decide) (by decide)) hp, h47, h02, fun q => ?_, ⟨K, k1, k2, k3⟩, h44, ⟨0, by decide, ?_, ?_⟩, h46⟩
  · obtain ⟨n2, na2, w2, f2⟩ := him q
    exact ⟨n2, na2, w2, zFA_fr22 f2 (fun k hk => f k (by omega) (by omega)) w2.2.2.2.1⟩
  · rw [b2 45 (by decide), a3, pk_us]; rfl
  · rw [b3, pk_us]; rfl
theorem zLaw_i {G G1 G2 : zG} {r : Nat → Int32} {n na : Nat} {x y : Int32} (h : zLaw G) (hr : G 93 = r) (hw : zRw r n na) (hR : zFA G 1 r n na) (h1 : nI n = x ∧ (∀ k, ((0 < k ∧ k < 22) ∨ 42 < k) → G1 k = G k) ∧ G1 0 2 = 1 ∧ zFA G1 22 r n na) (h2 : nI n = y ∧ (∀ k, (k < 92 ∨ 92 < k ∧ k < 95 ∨ 95 < k) → G2 k = G1 k) ∧ (∀ x, x ≠ 4 → G2 92 x = G1 92 x) ∧ G2 92 4 = 1 ∧ ∀ j, j < 102 → G2 95 j = r j) : x = y ∧ zLaw G2 := by
  subst hr
  obtain ⟨a1, a2, a3, a4⟩ := h1
  obtain ⟨b1, b2, b3, b4, b5⟩ := h2
  obtain ⟨-, hp, h47, -, -, ⟨K, k1, k2, k3⟩, h44, ⟨m, m1, m2, m3⟩, h46⟩ := h
  have f : ∀ k, ((0 < k ∧ k < 22) ∨ 42 < k) → (k < 92 ∨ 92 < k ∧ k < 95 ∨ 95 < k) → G2 k = G k := fun k h1 h2 => (b2 k h2).trans (a2 k h1)
  have g : ∀ z, z ≠ 4 → G2 92 z = G 92 z := fun z hz => by rw [b3 z hz, a2 92 (by omega)]
  refine ⟨a1.symm.trans b1, ?_⟩
  unfold zLaw
  rw [f 93 (by decide) (by decide), b2 0 (by decide), f 43 (by decide) (by decide), f 44 (by decide) (by decide), f 45 (by decide) (by decide), f 46 (by decide) (by decide), f 47 (by decide) (by decide), f 99 (by decide) (by decide), f 97 (by decide) (by decide), f 98 (by decide) (by decide), g 9 (by decide), g 8 (by decide), a3, b4]
  refine ⟨⟨n, na, hw, zFA_fr hR (fun k hk => f k (by omega) (by omega)) hw.2.2.2.1⟩, z_plk (f 70 (by decide) (by decide)) hp, h47, rfl, fun _ => ⟨n, na, zRw_r hw b5, ?_⟩, ⟨K, k1, k2, k3⟩, h44, ⟨m, m1, m2, m3⟩, h46⟩
  exact zFA_r (zFA_fr22 a4 (fun k hk => b2 k (by omega)) hw.2.2.2.1) hw.2.2.2.1 b5
theorem zLaw_o0 {G : zG} (h : zLaw G) : ∃ n na, ¬ G 0 2 = 0 → zRw (G 95) n na ∧ zFA G 22 (G 95) n na := by
  by_cases q : G 0 2 = 0
  · exact ⟨0, 0, fun z => absurd q z⟩
  · obtain ⟨n, na, w, f⟩ := h.2.2.2.2.1 q
    exact ⟨n, na, fun _ => ⟨w, f⟩⟩
theorem zLaw_o {G G1 G2 : zG} {r : Nat → Int32} {n na : Nat} {x y : Int32} (h : zLaw G) (hr : G 95 = r) (hI : ¬ G 0 2 = 0 → zRw r n na ∧ zFA G 22 r n na)
    (h1 : (G 0 2 = 0 ∧ -3 = x ∧ g1 G 47 (upd (G 47) 3 (G 47 3 + 1)) = G1) ∨ (¬ G 0 2 = 0 ∧ nI n = x ∧ (∀ k, (k < 1 ∨ 21 < k) → G1 k = G k) ∧ zFA G1 1 r n na))
    (h2 : (G1 92 4 = 0 ∧ -3 = y ∧ g1 G1 99 (upd (G1 99) 3 (G1 99 3 + 1)) = G2) ∨ (¬ G1 92 4 = 0 ∧ nI n = y ∧ (∀ k, (k < 93 ∨ 93 < k) → G2 k = G1 k) ∧ ∀ j, j < 102 → G2 93 j = G1 95 j)) : x = y ∧ zLaw G2 := by
  subst hr
  have e4 : G 0 2 = G 92 4 := h.2.2.2.1
  have h47 : G 47 = G 99 := h.2.2.1
  rcases h1 with ⟨a0, a1, rfl⟩ | ⟨a0, a1, a2, a3⟩
  · rcases h2 with ⟨b0, b1, rfl⟩ | ⟨b0, _⟩
    · refine ⟨a1.symm.trans b1, zLaw_k h (fun k hk => ?_) (fun z _ => ?_) ?_ ?_ ?_ ?_ ?_ ?_⟩
      · rw [g1_n (by omega), g1_n (by omega)]
      · rw [g1_n (by omega), g1_n (by omega)]
      · rw [g1_n (by omega), g1_n (by omega)]
      · rw [g1_n (by omega), g1_n (by omega)]
      · rw [g1_n (by omega), g1_n (by omega)]
      · rw [g1_n (by omega), g1_n (by omega)]
      · rw [g1_s, g1_n (by omega), g1_s, g1_n (by omega), h47]
      · exact z_plk (by rw [g1_n (by omega), g1_n (by omega)]) h.2.1
    · rw [g1_n (by omega)] at b0
      exact absurd (e4.symm.trans a0) b0
  · obtain ⟨w, fI⟩ := hI a0
    rcases h2 with ⟨b0, _⟩ | ⟨b0, b1, b2, b3⟩
    · rw [a2 92 (by omega), ← e4] at b0
      exact absurd b0 a0
    · obtain ⟨-, hp, -, -, -, ⟨K, k1, k2, k3⟩, h44, ⟨m, m1, m2, m3⟩, h46⟩ := h
      have f : ∀ k, (k < 1 ∨ 21 < k) → (k < 93 ∨ 93 < k) → G2 k = G k := fun k h1 h2 => (b2 k h2).trans (a2 k h1)
      have e : ∀ j, j < 102 → G2 93 j = G 95 j := fun j hj => (b3 j hj).trans (congrFun (a2 95 (by omega)) j)
      refine ⟨a1.symm.trans b1, ?_⟩
      unfold zLaw
      rw [f 0 (by decide) (by decide), f 43 (by decide) (by decide), f 44 (by decide) (by decide), f 45 (by decide) (by decide), f 46 (by decide) (by decide), f 47 (by decide) (by decide), f 92 (by decide) (by decide), f 95 (by decide) (by decide), f 99 (by decide) (by decide), f 97 (by decide) (by decide), f 98 (by decide) (by decide)]
      refine ⟨⟨n, na, zRw_r w e, zFA_r (zFA_fr a3 (fun k hk => b2 k (by omega)) w.2.2.2.1) w.2.2.2.1 e⟩, z_plk (f 70 (by decide) (by decide)) hp, h47, e4, fun _ => ⟨n, na, w, zFA_fr22 fI (fun k hk => f k (by omega) (by omega)) w.2.2.2.1⟩, ⟨K, k1, k2, k3⟩, h44, ⟨m, m1, m2, m3⟩, h46⟩
theorem r_res_w {L : Nat → Int32} {K : Nat} {r : Nat → Int32} {n na : Nat} {v : Int32} {q : Nat → Int32} {n2 na2 : Nat} (h : r_res L K r n na v q n2 na2) (hK : K ≤ 96) (hw : zRw r n na) : zRw q n2 na2 := by
  rcases h with ⟨_, _, rfl, rfl, rfl⟩ | ⟨hf, k, hk, ⟨_, _, _, rfl, rfl, rfl⟩ | ⟨_, _, rfl, rfl, rfl⟩⟩
  · exact hw
  · exact hw
  · exact r_keep hf hK hw k hk
theorem zLaw_x {G G1 G2 : zG} {L r : Nat → Int32} {K n na : Nat} {x y : Int32} (h : zLaw G) (hK : K ≤ 96) (hw : zRw r n na) (h1 : ∃ q n2 na2, r_res L K r n na x q n2 na2 ∧ zFA G1 1 q n2 na2 ∧ (∀ k, (k < 1 ∨ (21 < k ∧ k < 43) ∨ 43 < k) → G1 k = G k) ∧ G1 43 0 = 0)
    (h2 : ∃ q n2 na2, r_res L K r n na y q n2 na2 ∧ (∀ j, j < 102 → G2 93 j = q j) ∧ (∀ k, (k < 92 ∨ (93 < k ∧ k < 96) ∨ (96 < k ∧ k < 103) ∨ 103 < k) → G2 k = G1 k) ∧ (∀ x, x ≠ 13 → x ≠ 15 → x ≠ 8 → G2 92 x = G1 92 x) ∧ G2 92 8 = 0) : x = y ∧ zLaw G2 := by
  obtain ⟨q, n2, na2, a1, a2, a3, a4⟩ := h1
  obtain ⟨q', n2', na2', b1, b2, b3, b4, b5⟩ := h2
  obtain ⟨rfl, rfl, rfl, rfl⟩ := r_res_u a1 b1
  have w := r_res_w a1 hK hw
  obtain ⟨-, hp, h47, h02, him, -, h44, ⟨m, m1, m2, m3⟩, h46⟩ := h
  have f : ∀ k, (k < 1 ∨ (21 < k ∧ k < 43) ∨ 43 < k) → (k < 92 ∨ (93 < k ∧ k < 96) ∨ (96 < k ∧ k < 103) ∨ 103 < k) → G2 k = G k := fun k h1 h2 => (b3 k h2).trans (a3 k h1)
  have g : ∀ z, z ≠ 13 → z ≠ 15 → z ≠ 8 → G2 92 z = G 92 z := fun z h1 h2 h3 => by rw [b4 z h1 h2 h3, a3 92 (by omega)]
  refine ⟨rfl, ?_⟩
  unfold zLaw
  rw [f 0 (by decide) (by decide), b3 43 (by decide), f 44 (by decide) (by decide), f 45 (by decide) (by decide), f 46 (by decide) (by decide), f 47 (by decide) (by decide), f 95 (by decide) (by decide), f 99 (by decide) (by decide), f 97 (by decide) (by decide), f 98 (by decide) (by decide), g 4 (by decide) (by decide) (by decide), g 9 (by decide) (by decide) (by decide), a4, b5]
  refine ⟨⟨n2, na2, zRw_r w b2, zFA_r (zFA_fr a2 (fun k hk => b3 k (by omega)) w.2.2.2.1) w.2.2.2.1 b2⟩, z_plk (f 70 (by decide) (by decide)) hp, h47, h02, fun q => ?_, ⟨0, by decide, rfl, rfl⟩, h44, ⟨m, m1, m2, m3⟩, h46⟩
  obtain ⟨n3, na3, w3, f3⟩ := him q
  exact ⟨n3, na3, w3, zFA_fr22 f3 (fun k hk => f k (by omega) (by omega)) w3.2.2.2.1⟩
