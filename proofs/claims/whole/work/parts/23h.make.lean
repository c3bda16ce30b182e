/-! made trees as parts of a larger one -/
def zoff (c : Nat) : Nat := match c with
  | 0 => 2 | 1 => 3 | 2 => 2 | 3 => 5 | 5 => 17 | 6 => 1 | 7 => 1 | 8 => 10 | 9 => 91 | 10 => 15 | 12 => 13 | 13 => 11 | _ => 0
theorem zk_13 : ∀ k, k < 108 → zk k ≤ 13 := by decide +kernel
theorem zd_cong {f1 f2 : Nat → Nat} {E2 : zE2} {k k2 : Nat} {g : Nat → Int32} (hk : k < 108) (hkk : zk k2 = zk k) (hll : zl k2 = zl k) (h : ∀ j, j ≤ zoff (zk k) → f1 (k + j) = f2 (k2 + j)) (h5 : zk k = 5 → (g 6).toNatClampNeg ≤ 1 ∧ (g 7).toNatClampNeg ≤ 1) : zd (f1, E2) k g = zd (f2, E2) k2 g := by
  have hz := zk_13 k hk
  have h : ∀ j, j ≤ zoff (zk k) → ((f1, E2) : zE).1 (k + j) = ((f2, E2) : zE).1 (k2 + j) := h
  rcases (show zk k = 0 ∨ zk k = 1 ∨ zk k = 2 ∨ zk k = 3 ∨ zk k = 4 ∨ zk k = 5 ∨ zk k = 6 ∨ zk k = 7 ∨ zk k = 8 ∨ zk k = 9 ∨ zk k = 10 ∨ zk k = 11 ∨ zk k = 12 ∨ zk k = 13 by omega) with q | q | q | q | q | q | q | q | q | q | q | q | q | q
  all_goals rw [q] at h
  · rw [zd_0 _ q, zd_0 _ (hkk.trans q), h 1 (by decide), h 2 (by decide)]
  · rw [zd_1 _ q, zd_1 _ (hkk.trans q), h 1 (by decide), h 2 (by decide), h 3 (by decide)]
  · rw [zd_2 _ q, zd_2 _ (hkk.trans q), h 1 (by decide), h 2 (by decide)]
  · rw [zd_3 _ q, zd_3 _ (hkk.trans q), h 1 (by decide), h 5 (by decide)]
  · rw [zd_4 _ q, zd_4 _ (hkk.trans q)]
  · obtain ⟨a, b⟩ := h5 q
    have e1 := h (16 + (g 6).toNatClampNeg) (by show _ ≤ 17; omega)
    have e2 := h (16 + (g 7).toNatClampNeg) (by show _ ≤ 17; omega)
    rw [← Nat.add_assoc, ← Nat.add_assoc] at e1 e2
    rw [zd_5 _ q, zd_5 _ (hkk.trans q), h 1 (by decide), h 2 (by decide), h 3 (by decide), h 4 (by decide), e1, e2]
  · rw [zd_6 _ q, zd_6 _ (hkk.trans q), h 1 (by decide)]
  · rw [zd_7 _ q, zd_7 _ (hkk.trans q), h 1 (by decide)]
  · rw [zd_8 _ q, zd_8 _ (hkk.trans q), h 1 (by decide), h 5 (by decide), h 8 (by decide), h 9 (by decide), h 10 (by decide)]
  · rw [zd_9 _ q, zd_9 _ (hkk.trans q), h 1 (by decide), h 22 (by decide), h 43 (by decide), h 45 (by decide), h 47 (by decide), h 48 (by decide), h 59 (by decide), h 70 (by decide), h 88 (by decide), h 91 (by decide)]
  · rw [zd_10 _ q, zd_10 _ (hkk.trans q), h 1 (by decide), h 2 (by decide), h 3 (by decide), h 4 (by decide), h 5 (by decide), h 6 (by decide), h 7 (by decide), h 8 (by decide), h 9 (by decide), h 10 (by decide), h 11 (by decide), h 12 (by decide), h 13 (by decide), h 14 (by decide), h 15 (by decide)]
  · rw [zd_11 _ q, zd_11 _ (hkk.trans q), hll]
  · rw [zd_12 _ q, zd_12 _ (hkk.trans q)]
    have : (fun i => if i < 5 then some (((f1, E2) : zE).1 (k + 1 + 3 * i)) else none) = (fun i => if i < 5 then some (((f2, E2) : zE).1 (k2 + 1 + 3 * i)) else none) := by
      funext i
      by_cases hi : i < 5
      · rw [if_pos hi, if_pos hi, Nat.add_assoc, Nat.add_assoc k2, h (1 + 3 * i) (by show _ ≤ 13; omega)]
      · rw [if_neg hi, if_neg hi]
    rw [this]
  · rw [zd_13 _ q, zd_13 _ (hkk.trans q)]
    have : (fun i => if i < 11 then some (((f1, E2) : zE).1 (k + 1 + i)) else none) = (fun i => if i < 11 then some (((f2, E2) : zE).1 (k2 + 1 + i)) else none) := by
      funext i
      by_cases hi : i < 11
      · rw [if_pos hi, if_pos hi, Nat.add_assoc, Nat.add_assoc k2, h (1 + i) (by show _ ≤ 11; omega)]
      · rw [if_neg hi, if_neg hi]
    rw [this]
/-- the part from o, n cells long, of a tree at t -/
def zSg (E2 : zE2) (t : Nat) (F : Nat → Nat) (o n : Nat) : va_W := (List.range n).map (fun j => (F (o + j), zd (fun i => F (i - t), E2) (t + (o + j)) (g0 (t + (o + j)))))
theorem zSg_all (E2 : zE2) (t N : Nat) (F : Nat → Nat) : zS E2 t N F = zSg E2 t F 0 N := by
  unfold zS zSg
  refine List.map_congr_left (fun j _ => ?_)
  rw [Nat.zero_add]
theorem zSg_app (E2 : zE2) (t o n1 n2 : Nat) (F : Nat → Nat) : zSg E2 t F o (n1 + n2) = zSg E2 t F o n1 ++ zSg E2 t F (o + n1) n2 := by
  unfold zSg
  rw [List.range_add, List.map_append, List.map_map]
  refine congrArg (fun z => _ ++ z) (List.map_congr_left (fun j _ => ?_))
  show (F (o + (n1 + j)), _) = _
  rw [Nat.add_assoc o n1 j]
theorem g0_5 : ∀ k, k < 108 → zk k = 5 → (g0 k 6).toNatClampNeg ≤ 1 ∧ (g0 k 7).toNatClampNeg ≤ 1 := by decide +kernel
theorem zS_move {E2 : zE2} {t t2 o n : Nat} {F fb : Nat → Nat} (hF : ∀ j, j < n → F (o + j) = fb j) (hn : t + o + n ≤ 108) (hin : ∀ j, j < n → j + zoff (zk (t + o + j)) < n) (hkk : ∀ j, j < n → zk (t2 + j) = zk (t + o + j) ∧ zl (t2 + j) = zl (t + o + j)) (hg : ∀ j, j < n → g0 (t + o + j) = g0 (t2 + j)) : zSg E2 t F o n = zS E2 t2 n fb := by
  unfold zSg zS
  refine List.map_congr_left (fun j hj => ?_)
  have hj := List.mem_range.mp hj
  rw [← Nat.add_assoc, hF j hj, ← hg j hj]
  refine congrArg (fun z => (fb j, z)) (zd_cong (by omega) (hkk j hj).1 (hkk j hj).2 (fun x hx => ?_) (g0_5 _ (by omega)))
  have h2 := hin j hj
  show F (t + o + j + x - t) = fb (t2 + j + x - t2)
  rw [show t + o + j + x - t = o + (j + x) by omega, show t2 + j + x - t2 = j + x by omega]
  exact hF (j + x) (by omega)
theorem zS_block {E2 : zE2} {t o n : Nat} {F fb : Nat → Nat} (hF : ∀ j, j < n → F (o + j) = fb j) (hn : t + o + n ≤ 108) (hin : ∀ j, j < n → j + zoff (zk (t + o + j)) < n) : zSg E2 t F o n = zS E2 (t + o) n fb := zS_move hF hn hin (fun _ _ => ⟨rfl, rfl⟩) (fun _ _ => rfl)
