/-! laid by wip/whole/vcg.py -/
set_option maxHeartbeats 4000000 in
set_option maxRecDepth 100000 in
theorem c_X12_of (l : Launch) (E : zE) (G : zG) (x y : Nat) : zMi l yX12_of wsX12_of ({ frames := 0, cells := 0, slots := 0, locals := 0 } : Room) E G [.int (nI x), .int (nI y)] (fun r G1 => nI (2 + 3 * x + y) = r ∧ G = G1) := by
  refine zOf (cc := cX12_of) (nL := 2) (ret := (some .int)) RX12 (by decide) rfl rfl (Nat.le_of_ble_eq_true rfl) ?_
  intro p_ e_ s_ m_ a_ b_ me_ c_ ls C0 hP hS hl
  have hx := C0.1
  have hb := C0.2.1
  have hts := C0.2.2.2.2.1
  have hD : zD E (zA E s_.heap.size) := C0.2.2.2.2.2.2.2.2
  have hA : ∀ q : Nat, s_.heap.size ≤ q → zA E s_.heap.size q := fun q h => Or.inr h
  refine z_gen (fun Q_ hQ_ => ?_)
  have hl : lv_has ls 2 [(0, .int (nI x)), (1, .int (nI y))] := hl
  refine lv_iconst (v := (2 : Int32)) hx hb dX12_of_0 (by decide) ?_
  refine lv_iconst (v := (3 : Int32)) hx hb dX12_of_1 (by decide) ?_
  refine lv_iload_n hx hb dX12_of_2 rfl (lv_at hl 0 rfl) ?_
  refine z_imul hx hb (a := 3) (b := x) (n := 3 * x) dX12_of_3 rfl rfl rfl ?_
  refine z_iadd hx hb (a := 2) (b := 3 * x) (n := 2 + (3 * x)) dX12_of_4 rfl rfl rfl ?_
  refine lv_iload_n hx hb dX12_of_5 rfl (lv_at hl 1 rfl) ?_
  refine z_iadd hx hb (a := 2 + (3 * x)) (b := y) (n := (2 + (3 * x)) + y) dX12_of_6 rfl rfl rfl ?_
  subst hQ_
  exact z_iret C0 hP hS (v := (nI ((2 + (3 * x)) + y))) (by refine ⟨congrArg nI (by omega), rfl⟩) dX12_of_7
set_option maxHeartbeats 4000000 in
set_option maxRecDepth 100000 in
theorem c_X12_athleteAt (l : Launch) (E : zE) (G : zG) (x y : Nat) : zMi l yX12_athleteAt wsX12_athleteAt ({ frames := 0, cells := 0, slots := 0, locals := 0 } : Room) E G [.int (nI x), .int (nI y)] (fun r G1 => nI (32 + 4 * x + y) = r ∧ G = G1) := by
  refine zOf (cc := cX12_athleteAt) (nL := 2) (ret := (some .int)) RX12 (by decide) rfl rfl (Nat.le_of_ble_eq_true rfl) ?_
  intro p_ e_ s_ m_ a_ b_ me_ c_ ls C0 hP hS hl
  have hx := C0.1
  have hb := C0.2.1
  have hts := C0.2.2.2.2.1
  have hD : zD E (zA E s_.heap.size) := C0.2.2.2.2.2.2.2.2
  have hA : ∀ q : Nat, s_.heap.size ≤ q → zA E s_.heap.size q := fun q h => Or.inr h
  refine z_gen (fun Q_ hQ_ => ?_)
  have hl : lv_has ls 2 [(0, .int (nI x)), (1, .int (nI y))] := hl
  refine lv_bipush (v := (32 : Int32)) hx hb dX12_athleteAt_0 (by decide) ?_
  refine lv_iconst (v := (4 : Int32)) hx hb dX12_athleteAt_2 (by decide) ?_
  refine lv_iload_n hx hb dX12_athleteAt_3 rfl (lv_at hl 0 rfl) ?_
  refine z_imul hx hb (a := 4) (b := x) (n := 4 * x) dX12_athleteAt_4 rfl rfl rfl ?_
  refine z_iadd hx hb (a := 32) (b := 4 * x) (n := 32 + (4 * x)) dX12_athleteAt_5 rfl rfl rfl ?_
  refine lv_iload_n hx hb dX12_athleteAt_6 rfl (lv_at hl 1 rfl) ?_
  refine z_iadd hx hb (a := 32 + (4 * x)) (b := y) (n := (32 + (4 * x)) + y) dX12_athleteAt_7 rfl rfl rfl ?_
  subst hQ_
  exact z_iret C0 hP hS (v := (nI ((32 + (4 * x)) + y))) (by refine ⟨congrArg nI (by omega), rfl⟩) dX12_athleteAt_8
set_option maxHeartbeats 4000000 in
set_option maxRecDepth 100000 in
theorem c_X12_tried (l : Launch) (E : zE) (G : zG) (x y : Nat) : zMi l yX12_tried wsX12_tried ({ frames := 0, cells := 0, slots := 0, locals := 0 } : Room) E G [.int (nI x), .int (nI y)] (fun r G1 => nI (52 + 10 * x + y) = r ∧ G = G1) := by
  refine zOf (cc := cX12_tried) (nL := 2) (ret := (some .int)) RX12 (by decide) rfl rfl (Nat.le_of_ble_eq_true rfl) ?_
  intro p_ e_ s_ m_ a_ b_ me_ c_ ls C0 hP hS hl
  have hx := C0.1
  have hb := C0.2.1
  have hts := C0.2.2.2.2.1
  have hD : zD E (zA E s_.heap.size) := C0.2.2.2.2.2.2.2.2
  have hA : ∀ q : Nat, s_.heap.size ≤ q → zA E s_.heap.size q := fun q h => Or.inr h
  refine z_gen (fun Q_ hQ_ => ?_)
  have hl : lv_has ls 2 [(0, .int (nI x)), (1, .int (nI y))] := hl
  refine lv_bipush (v := (52 : Int32)) hx hb dX12_tried_0 (by decide) ?_
  refine lv_bipush (v := (10 : Int32)) hx hb dX12_tried_2 (by decide) ?_
  refine lv_iload_n hx hb dX12_tried_4 rfl (lv_at hl 0 rfl) ?_
  refine z_imul hx hb (a := 10) (b := x) (n := 10 * x) dX12_tried_5 rfl rfl rfl ?_
  refine z_iadd hx hb (a := 52) (b := 10 * x) (n := 52 + (10 * x)) dX12_tried_6 rfl rfl rfl ?_
  refine lv_iload_n hx hb dX12_tried_7 rfl (lv_at hl 1 rfl) ?_
  refine z_iadd hx hb (a := 52 + (10 * x)) (b := y) (n := (52 + (10 * x)) + y) dX12_tried_8 rfl rfl rfl ?_
  subst hQ_
  exact z_iret C0 hP hS (v := (nI ((52 + (10 * x)) + y))) (by refine ⟨congrArg nI (by omega), rfl⟩) dX12_tried_9
set_option maxHeartbeats 4000000 in
set_option maxRecDepth 100000 in
theorem c_X12_isIn (l : Launch) (E : zE) (G : zG) (v lo hi : Int32) : zMi l yX12_isIn wsX12_isIn ({ frames := 0, cells := 0, slots := 0, locals := 0 } : Room) E G [.int v, .int lo, .int hi] (fun r G1 => (1 = r ∧ G = G1 ∧ lo ≤ v ∧ v ≤ hi) ∨ (0 = r ∧ G = G1 ∧ ¬ (lo ≤ v ∧ v ≤ hi))) := by
  refine zOf (cc := cX12_isIn) (nL := 3) (ret := (some .boolean)) RX12 (by decide) rfl rfl (Nat.le_of_ble_eq_true rfl) ?_
  intro p_ e_ s_ m_ a_ b_ me_ c_ ls C0 hP hS hl
  have hx := C0.1
  have hb := C0.2.1
  have hts := C0.2.2.2.2.1
  have hD : zD E (zA E s_.heap.size) := C0.2.2.2.2.2.2.2.2
  have hA : ∀ q : Nat, s_.heap.size ≤ q → zA E s_.heap.size q := fun q h => Or.inr h
  refine z_gen (fun Q_ hQ_ => ?_)
  have hl : lv_has ls 3 [(0, .int v), (1, .int lo), (2, .int hi)] := hl
  refine lv_iload_n hx hb dX12_isIn_0 rfl (lv_at hl 0 rfl) ?_
  refine lv_iload_n hx hb dX12_isIn_1 rfl (lv_at hl 1 rfl) ?_
  refine lv_icmp_lt (tgt := 14) hx hb dX12_isIn_2 (by decide) (fun c_2 => ?_) (fun c_2 => ?_)
  · skip
    refine lv_iconst (v := (0 : Int32)) hx hb dX12_isIn_14 (by decide) ?_
    subst hQ_
    exact z_zret C0 hP hS (v := (0 : Int32)) (by decide) (by exact Or.inr ⟨rfl, rfl, fun q => by first | exact Int32.not_lt.mpr q.1 c_2 | exact Int32.not_lt.mpr q.2 c_7⟩) dX12_isIn_15
  · skip
    refine lv_iload_n hx hb dX12_isIn_5 rfl (lv_at hl 0 rfl) ?_
    refine lv_iload_n hx hb dX12_isIn_6 rfl (lv_at hl 2 rfl) ?_
    refine lv_icmp_gt (tgt := 14) hx hb dX12_isIn_7 (by decide) (fun c_7 => ?_) (fun c_7 => ?_)
    · skip
      refine lv_iconst (v := (0 : Int32)) hx hb dX12_isIn_14 (by decide) ?_
      subst hQ_
      exact z_zret C0 hP hS (v := (0 : Int32)) (by decide) (by exact Or.inr ⟨rfl, rfl, fun q => by first | exact Int32.not_lt.mpr q.1 c_2 | exact Int32.not_lt.mpr q.2 c_7⟩) dX12_isIn_15
    · skip
      refine lv_iconst (v := (1 : Int32)) hx hb dX12_isIn_10 (by decide) ?_
      refine lv_goto (tgt := 15) hx hb dX12_isIn_11 (by decide) ?_
      subst hQ_
      exact z_zret C0 hP hS (v := (1 : Int32)) (by decide) (by exact Or.inl ⟨rfl, rfl, Int32.not_lt.mp c_2, Int32.not_lt.mp c_7⟩) dX12_isIn_15
set_option maxHeartbeats 4000000 in
set_option maxRecDepth 100000 in
theorem c_X12_least (l : Launch) (E : zE) (G : zG) (a b : Int32) : zMi l yX12_least wsX12_least ({ frames := 0, cells := 0, slots := 0, locals := 0 } : Room) E G [.int a, .int b] (fun r G1 => s_min a b = r ∧ G = G1) := by
  refine zOf (cc := cX12_least) (nL := 2) (ret := (some .int)) RX12 (by decide) rfl rfl (Nat.le_of_ble_eq_true rfl) ?_
  intro p_ e_ s_ m_ a_ b_ me_ c_ ls C0 hP hS hl
  have hx := C0.1
  have hb := C0.2.1
  have hts := C0.2.2.2.2.1
  have hD : zD E (zA E s_.heap.size) := C0.2.2.2.2.2.2.2.2
  have hA : ∀ q : Nat, s_.heap.size ≤ q → zA E s_.heap.size q := fun q h => Or.inr h
  refine z_gen (fun Q_ hQ_ => ?_)
  have hl : lv_has ls 2 [(0, .int a), (1, .int b)] := hl
  refine lv_iload_n hx hb dX12_least_0 rfl (lv_at hl 0 rfl) ?_
  refine lv_iload_n hx hb dX12_least_1 rfl (lv_at hl 1 rfl) ?_
  refine lv_icmp_ge (tgt := 9) hx hb dX12_least_2 (by decide) (fun c_2 => ?_) (fun c_2 => ?_)
  · skip
    have d_2 := Int32.not_lt.mpr c_2
    refine lv_iload_n hx hb dX12_least_9 rfl (lv_at hl 1 rfl) ?_
    subst hQ_
    exact z_iret C0 hP hS (v := b) (by refine ⟨?_, rfl⟩; simp [s_min, s_max, d_2]) dX12_least_10
  · skip
    have d_2 := Int32.not_le.mp c_2
    refine lv_iload_n hx hb dX12_least_5 rfl (lv_at hl 0 rfl) ?_
    refine lv_goto (tgt := 10) hx hb dX12_least_6 (by decide) ?_
    subst hQ_
    exact z_iret C0 hP hS (v := a) (by refine ⟨?_, rfl⟩; simp [s_min, s_max, d_2]) dX12_least_10
set_option maxHeartbeats 4000000 in
set_option maxRecDepth 100000 in
theorem c_X12_most (l : Launch) (E : zE) (G : zG) (a b : Int32) : zMi l yX12_most wsX12_most ({ frames := 0, cells := 0, slots := 0, locals := 0 } : Room) E G [.int a, .int b] (fun r G1 => s_max a b = r ∧ G = G1) := by
  refine zOf (cc := cX12_most) (nL := 2) (ret := (some .int)) RX12 (by decide) rfl rfl (Nat.le_of_ble_eq_true rfl) ?_
  intro p_ e_ s_ m_ a_ b_ me_ c_ ls C0 hP hS hl
  have hx := C0.1
  have hb := C0.2.1
  have hts := C0.2.2.2.2.1
  have hD : zD E (zA E s_.heap.size) := C0.2.2.2.2.2.2.2.2
  have hA : ∀ q : Nat, s_.heap.size ≤ q → zA E s_.heap.size q := fun q h => Or.inr h
  refine z_gen (fun Q_ hQ_ => ?_)
  have hl : lv_has ls 2 [(0, .int a), (1, .int b)] := hl
  refine lv_iload_n hx hb dX12_most_0 rfl (lv_at hl 0 rfl) ?_
  refine lv_iload_n hx hb dX12_most_1 rfl (lv_at hl 1 rfl) ?_
  refine lv_icmp_le (tgt := 9) hx hb dX12_most_2 (by decide) (fun c_2 => ?_) (fun c_2 => ?_)
  · skip
    have d_2 := Int32.not_lt.mpr c_2
    refine lv_iload_n hx hb dX12_most_9 rfl (lv_at hl 1 rfl) ?_
    subst hQ_
    exact z_iret C0 hP hS (v := b) (by refine ⟨?_, rfl⟩; simp [s_min, s_max, d_2]) dX12_most_10
  · skip
    have d_2 := Int32.not_le.mp c_2
    refine lv_iload_n hx hb dX12_most_5 rfl (lv_at hl 0 rfl) ?_
    refine lv_goto (tgt := 10) hx hb dX12_most_6 (by decide) ?_
    subst hQ_
    exact z_iret C0 hP hS (v := a) (by refine ⟨?_, rfl⟩; simp [s_min, s_max, d_2]) dX12_most_10
theorem flRX12_9 : Cond.fieldLink RX12 9 "WetSuitPedalsShoesModel" "s" "[I" ∈ zU := zU_m 808 (by decide +kernel) rfl
theorem mlRX12_62 : Cond.methodLink RX12 62 yX12_isIn ∈ zU := zU_m 907 (by decide +kernel) rfl
theorem coX12_isIn : Cond.code yX12_isIn cX12_isIn 3 (some .boolean) ∈ zU := zU_m 909 (by decide +kernel) rfl
theorem stX12_isIn : Cond.static yX12_isIn ∈ zU := zU_m 908 (by decide +kernel) rfl
theorem iniRX12 : Cond.initialized RX12 ∈ zU := zU_m 58 (by decide +kernel) rfl
set_option maxHeartbeats 4000000 in
set_option maxRecDepth 100000 in
theorem c_X12_isSection (l : Launch) (E : zE) (G : zG) (n : Nat) (i : Int32) (hn : G 93 0 = nI n) (hn2 : n < 2 ^ 31) : zMi l yX12_isSection wsX12_isSection ({ frames := 1, cells := 0, slots := 0, locals := 22 } : Room) E G [.ref (E.1 92), .int i] (fun r G1 => (1 = r ∧ G = G1 ∧ ∃ j : Nat, j < n ∧ i = nI j) ∨ (0 = r ∧ G = G1 ∧ ¬ ∃ j : Nat, j < n ∧ i = nI j)) := by
  refine zOf (cc := cX12_isSection) (nL := 2) (ret := (some .boolean)) RX12 (by decide) rfl rfl (Nat.le_of_ble_eq_true rfl) ?_
  intro p_ e_ s_ m_ a_ b_ me_ c_ ls C0 hP hS hl
  have hx := C0.1
  have hb := C0.2.1
  have hts := C0.2.2.2.2.1
  have hD : zD E (zA E s_.heap.size) := C0.2.2.2.2.2.2.2.2
  have hA : ∀ q : Nat, s_.heap.size ≤ q → zA E s_.heap.size q := fun q h => Or.inr h
  refine z_gen (fun Q_ hQ_ => ?_)
  have hl : lv_has ls 2 [(0, .ref (E.1 92)), (1, .int i)] := hl
  refine lv_iload_n hx hb dX12_isSection_0 rfl (lv_at hl 1 rfl) ?_
  refine lv_iconst (v := (0 : Int32)) hx hb dX12_isSection_1 (by decide) ?_
  refine lv_aload_n hx hb dX12_isSection_2 rfl (lv_at hl 0 rfl) ?_
  refine z_get C0 hP (C := RX12) (T := TX12) (N := 21) (ci := 10) (index := 9) (k := 92) (ref := "WetSuitPedalsShoesModel") (zk_lt (rfl : zk 92 = 10) (by decide)) (zd_10 E (rfl : zk 92 = 10) _) rfl (zmi inU_12) 0 (by decide) (zm flRX12_9) rfl (v := .ref (E.1 93)) (rfl) dX12_isSection_3 ?_
  refine lv_iconst (v := (0 : Int32)) hx hb dX12_isSection_6 (by decide) ?_
  refine z_iald C0 hP (k := 93) (i := 0) (v := (nI n)) (rfl : zk 93 = 11) (Nat.lt_of_lt_of_eq (show 0 < 102 by decide) (rfl : zl 93 = 102).symm) rfl dX12_isSection_7 (hn) ?_
  refine lv_iconst (v := (1 : Int32)) hx hb dX12_isSection_8 (by decide) ?_
  refine lv_isub hx hb dX12_isSection_9 ?_
  refine z_Si C0 hP hD hA hS (As := [.int i, .int (0 : Int32), .int ((nI n) - (1 : Int32))]) (rest := []) (c_X12_isIn l E _ i (0 : Int32) ((nI n) - (1 : Int32))) (va_cwS 3 hts (zgS zbw mlRX12_62 stX12_isIn iniRX12 coX12_isIn) rfl rfl rfl (by decide +kernel) ⟨Nat.le_of_ble_eq_true rfl, Nat.le_of_ble_eq_true rfl⟩) rfl hl.1 rfl (Nat.le_of_ble_eq_true rfl) dX12_isSection_10 ⟨Nat.zero_le _, Nat.zero_le _⟩ (fun r1 G1 H locs hw1 hP hS => ?_)
  rcases hw1 with ⟨rfl, rfl, hi1_1, hi2_1⟩ | ⟨rfl, rfl, hi0_1⟩
  · skip
    have hi3_1 := Int32.not_lt.mpr hi1_1
    have hi4_1 := Int32.not_lt.mpr hi2_1
    subst hQ_
    exact z_zret C0 hP hS (v := (1 : Int32)) (by decide) (by exact Or.inl ⟨rfl, rfl, z_sec1 hn2 hi1_1 hi2_1⟩) dX12_isSection_13
  · skip
    have hi5_1 := z_nin hi0_1
    subst hQ_
    exact z_zret C0 hP hS (v := (0 : Int32)) (by decide) (by exact Or.inr ⟨rfl, rfl, z_sec0 hn2 hi0_1⟩) dX12_isSection_13
set_option maxHeartbeats 4000000 in
set_option maxRecDepth 100000 in
theorem c_X12_isAthlete (l : Launch) (E : zE) (G : zG) (n : Nat) (i : Int32) (hn : G 93 1 = nI n) (hn2 : n < 2 ^ 31) : zMi l yX12_isAthlete wsX12_isAthlete ({ frames := 1, cells := 0, slots := 0, locals := 22 } : Room) E G [.ref (E.1 92), .int i] (fun r G1 => (1 = r ∧ G = G1 ∧ ∃ j : Nat, j < n ∧ i = nI j) ∨ (0 = r ∧ G = G1 ∧ ¬ ∃ j : Nat, j < n ∧ i = nI j)) := by
  refine zOf (cc := cX12_isAthlete) (nL := 2) (ret := (some .boolean)) RX12 (by decide) rfl rfl (Nat.le_of_ble_eq_true rfl) ?_
  intro p_ e_ s_ m_ a_ b_ me_ c_ ls C0 hP hS hl
  have hx := C0.1
  have hb := C0.2.1
  have hts := C0.2.2.2.2.1
  have hD : zD E (zA E s_.heap.size) := C0.2.2.2.2.2.2.2.2
  have hA : ∀ q : Nat, s_.heap.size ≤ q → zA E s_.heap.size q := fun q h => Or.inr h
  refine z_gen (fun Q_ hQ_ => ?_)
  have hl : lv_has ls 2 [(0, .ref (E.1 92)), (1, .int i)] := hl
  refine lv_iload_n hx hb dX12_isAthlete_0 rfl (lv_at hl 1 rfl) ?_
  refine lv_iconst (v := (0 : Int32)) hx hb dX12_isAthlete_1 (by decide) ?_
  refine lv_aload_n hx hb dX12_isAthlete_2 rfl (lv_at hl 0 rfl) ?_
  refine z_get C0 hP (C := RX12) (T := TX12) (N := 21) (ci := 10) (index := 9) (k := 92) (ref := "WetSuitPedalsShoesModel") (zk_lt (rfl : zk 92 = 10) (by decide)) (zd_10 E (rfl : zk 92 = 10) _) rfl (zmi inU_12) 0 (by decide) (zm flRX12_9) rfl (v := .ref (E.1 93)) (rfl) dX12_isAthlete_3 ?_
  refine lv_iconst (v := (1 : Int32)) hx hb dX12_isAthlete_6 (by decide) ?_
  refine z_iald C0 hP (k := 93) (i := 1) (v := (nI n)) (rfl : zk 93 = 11) (Nat.lt_of_lt_of_eq (show 1 < 102 by decide) (rfl : zl 93 = 102).symm) rfl dX12_isAthlete_7 (hn) ?_
  refine lv_iconst (v := (1 : Int32)) hx hb dX12_isAthlete_8 (by decide) ?_
  refine lv_isub hx hb dX12_isAthlete_9 ?_
  refine z_Si C0 hP hD hA hS (As := [.int i, .int (0 : Int32), .int ((nI n) - (1 : Int32))]) (rest := []) (c_X12_isIn l E _ i (0 : Int32) ((nI n) - (1 : Int32))) (va_cwS 3 hts (zgS zbw mlRX12_62 stX12_isIn iniRX12 coX12_isIn) rfl rfl rfl (by decide +kernel) ⟨Nat.le_of_ble_eq_true rfl, Nat.le_of_ble_eq_true rfl⟩) rfl hl.1 rfl (Nat.le_of_ble_eq_true rfl) dX12_isAthlete_10 ⟨Nat.zero_le _, Nat.zero_le _⟩ (fun r1 G1 H locs hw1 hP hS => ?_)
  rcases hw1 with ⟨rfl, rfl, hi1_1, hi2_1⟩ | ⟨rfl, rfl, hi0_1⟩
  · skip
    have hi3_1 := Int32.not_lt.mpr hi1_1
    have hi4_1 := Int32.not_lt.mpr hi2_1
    subst hQ_
    exact z_zret C0 hP hS (v := (1 : Int32)) (by decide) (by exact Or.inl ⟨rfl, rfl, z_sec1 hn2 hi1_1 hi2_1⟩) dX12_isAthlete_13
  · skip
    have hi5_1 := z_nin hi0_1
    subst hQ_
    exact z_zret C0 hP hS (v := (0 : Int32)) (by decide) (by exact Or.inr ⟨rfl, rfl, z_sec0 hn2 hi0_1⟩) dX12_isAthlete_13
set_option maxHeartbeats 4000000 in
set_option maxRecDepth 100000 in
theorem c_X12_isSectionN (l : Launch) (E : zE) (G : zG) (n i : Nat) (hn : G 93 0 = nI n) (hn2 : n < 2 ^ 31) (hi : i < 2 ^ 31) : zMi l yX12_isSection wsX12_isSection ({ frames := 1, cells := 0, slots := 0, locals := 22 } : Room) E G [.ref (E.1 92), .int (nI i)] (fun r G1 => (1 = r ∧ G = G1 ∧ i < n) ∨ (0 = r ∧ G = G1 ∧ n ≤ i)) := by
  refine zOf (cc := cX12_isSection) (nL := 2) (ret := (some .boolean)) RX12 (by decide) rfl rfl (Nat.le_of_ble_eq_true rfl) ?_
  intro p_ e_ s_ m_ a_ b_ me_ c_ ls C0 hP hS hl
  have hx := C0.1
  have hb := C0.2.1
  have hts := C0.2.2.2.2.1
  have hD : zD E (zA E s_.heap.size) := C0.2.2.2.2.2.2.2.2
  have hA : ∀ q : Nat, s_.heap.size ≤ q → zA E s_.heap.size q := fun q h => Or.inr h
  refine z_gen (fun Q_ hQ_ => ?_)
  have hl : lv_has ls 2 [(0, .ref (E.1 92)), (1, .int (nI i))] := hl
  refine lv_iload_n hx hb dX12_isSection_0 rfl (lv_at hl 1 rfl) ?_
  refine lv_iconst (v := (0 : Int32)) hx hb dX12_isSection_1 (by decide) ?_
  refine lv_aload_n hx hb dX12_isSection_2 rfl (lv_at hl 0 rfl) ?_
  refine z_get C0 hP (C := RX12) (T := TX12) (N := 21) (ci := 10) (index := 9) (k := 92) (ref := "WetSuitPedalsShoesModel") (zk_lt (rfl : zk 92 = 10) (by decide)) (zd_10 E (rfl : zk 92 = 10) _) rfl (zmi inU_12) 0 (by decide) (zm flRX12_9) rfl (v := .ref (E.1 93)) (rfl) dX12_isSection_3 ?_
  refine lv_iconst (v := (0 : Int32)) hx hb dX12_isSection_6 (by decide) ?_
  refine z_iald C0 hP (k := 93) (i := 0) (v := (nI n)) (rfl : zk 93 = 11) (Nat.lt_of_lt_of_eq (show 0 < 102 by decide) (rfl : zl 93 = 102).symm) rfl dX12_isSection_7 (hn) ?_
  refine lv_iconst (v := (1 : Int32)) hx hb dX12_isSection_8 (by decide) ?_
  refine lv_isub hx hb dX12_isSection_9 ?_
  refine z_Si C0 hP hD hA hS (As := [.int (nI i), .int (0 : Int32), .int ((nI n) - (1 : Int32))]) (rest := []) (c_X12_isIn l E _ (nI i) (0 : Int32) ((nI n) - (1 : Int32))) (va_cwS 3 hts (zgS zbw mlRX12_62 stX12_isIn iniRX12 coX12_isIn) rfl rfl rfl (by decide +kernel) ⟨Nat.le_of_ble_eq_true rfl, Nat.le_of_ble_eq_true rfl⟩) rfl hl.1 rfl (Nat.le_of_ble_eq_true rfl) dX12_isSection_10 ⟨Nat.zero_le _, Nat.zero_le _⟩ (fun r1 G1 H locs hw1 hP hS => ?_)
  rcases hw1 with ⟨rfl, rfl, hi1_1, hi2_1⟩ | ⟨rfl, rfl, hi0_1⟩
  · skip
    have hi3_1 := Int32.not_lt.mpr hi1_1
    have hi4_1 := Int32.not_lt.mpr hi2_1
    subst hQ_
    exact z_zret C0 hP hS (v := (1 : Int32)) (by decide) (by exact Or.inl ⟨rfl, rfl, z_secN1 hi hn2 hi1_1 hi2_1⟩) dX12_isSection_13
  · skip
    have hi5_1 := z_nin hi0_1
    subst hQ_
    exact z_zret C0 hP hS (v := (0 : Int32)) (by decide) (by exact Or.inr ⟨rfl, rfl, z_secN0 hi hn2 hi0_1⟩) dX12_isSection_13
set_option maxHeartbeats 4000000 in
set_option maxRecDepth 100000 in
theorem c_X12_isAthleteN (l : Launch) (E : zE) (G : zG) (n i : Nat) (hn : G 93 1 = nI n) (hn2 : n < 2 ^ 31) (hi : i < 2 ^ 31) : zMi l yX12_isAthlete wsX12_isAthlete ({ frames := 1, cells := 0, slots := 0, locals := 22 } : Room) E G [.ref (E.1 92), .int (nI i)] (fun r G1 => (1 = r ∧ G = G1 ∧ i < n) ∨ (0 = r ∧ G = G1 ∧ n ≤ i)) := by
  refine zOf (cc := cX12_isAthlete) (nL := 2) (ret := (some .boolean)) RX12 (by decide) rfl rfl (Nat.le_of_ble_eq_true rfl) ?_
  intro p_ e_ s_ m_ a_ b_ me_ c_ ls C0 hP hS hl
  have hx := C0.1
  have hb := C0.2.1
  have hts := C0.2.2.2.2.1
  have hD : zD E (zA E s_.heap.size) := C0.2.2.2.2.2.2.2.2
  have hA : ∀ q : Nat, s_.heap.size ≤ q → zA E s_.heap.size q := fun q h => Or.inr h
  refine z_gen (fun Q_ hQ_ => ?_)
  have hl : lv_has ls 2 [(0, .ref (E.1 92)), (1, .int (nI i))] := hl
  refine lv_iload_n hx hb dX12_isAthlete_0 rfl (lv_at hl 1 rfl) ?_
  refine lv_iconst (v := (0 : Int32)) hx hb dX12_isAthlete_1 (by decide) ?_
  refine lv_aload_n hx hb dX12_isAthlete_2 rfl (lv_at hl 0 rfl) ?_
  refine z_get C0 hP (C := RX12) (T := TX12) (N := 21) (ci := 10) (index := 9) (k := 92) (ref := "WetSuitPedalsShoesModel") (zk_lt (rfl : zk 92 = 10) (by decide)) (zd_10 E (rfl : zk 92 = 10) _) rfl (zmi inU_12) 0 (by decide) (zm flRX12_9) rfl (v := .ref (E.1 93)) (rfl) dX12_isAthlete_3 ?_
  refine lv_iconst (v := (1 : Int32)) hx hb dX12_isAthlete_6 (by decide) ?_
  refine z_iald C0 hP (k := 93) (i := 1) (v := (nI n)) (rfl : zk 93 = 11) (Nat.lt_of_lt_of_eq (show 1 < 102 by decide) (rfl : zl 93 = 102).symm) rfl dX12_isAthlete_7 (hn) ?_
  refine lv_iconst (v := (1 : Int32)) hx hb dX12_isAthlete_8 (by decide) ?_
  refine lv_isub hx hb dX12_isAthlete_9 ?_
  refine z_Si C0 hP hD hA hS (As := [.int (nI i), .int (0 : Int32), .int ((nI n) - (1 : Int32))]) (rest := []) (c_X12_isIn l E _ (nI i) (0 : Int32) ((nI n) - (1 : Int32))) (va_cwS 3 hts (zgS zbw mlRX12_62 stX12_isIn iniRX12 coX12_isIn) rfl rfl rfl (by decide +kernel) ⟨Nat.le_of_ble_eq_true rfl, Nat.le_of_ble_eq_true rfl⟩) rfl hl.1 rfl (Nat.le_of_ble_eq_true rfl) dX12_isAthlete_10 ⟨Nat.zero_le _, Nat.zero_le _⟩ (fun r1 G1 H locs hw1 hP hS => ?_)
  rcases hw1 with ⟨rfl, rfl, hi1_1, hi2_1⟩ | ⟨rfl, rfl, hi0_1⟩
  · skip
    have hi3_1 := Int32.not_lt.mpr hi1_1
    have hi4_1 := Int32.not_lt.mpr hi2_1
    subst hQ_
    exact z_zret C0 hP hS (v := (1 : Int32)) (by decide) (by exact Or.inl ⟨rfl, rfl, z_secN1 hi hn2 hi1_1 hi2_1⟩) dX12_isAthlete_13
  · skip
    have hi5_1 := z_nin hi0_1
    subst hQ_
    exact z_zret C0 hP hS (v := (0 : Int32)) (by decide) (by exact Or.inr ⟨rfl, rfl, z_secN0 hi hn2 hi0_1⟩) dX12_isAthlete_13
theorem flRX12_28 : Cond.fieldLink RX12 28 "WetSuitPedalsShoesModel" "refused" "[I" ∈ zU := zU_m 815 (by decide +kernel) rfl
set_option maxHeartbeats 4000000 in
set_option maxRecDepth 100000 in
theorem c_X12_no (l : Launch) (E : zE) (G : zG) (cd : Int32) (k : Nat) (hk : k < 7) (hcd : -cd = nI k) : zMi l yX12_no wsX12_no ({ frames := 0, cells := 0, slots := 0, locals := 0 } : Room) E G [.ref (E.1 92), .int cd] (fun r G1 => cd = r ∧ g1 G 99 (upd (G 99) k (G 99 k + 1)) = G1) := by
  refine zOf (cc := cX12_no) (nL := 2) (ret := (some .int)) RX12 (by decide) rfl rfl (Nat.le_of_ble_eq_true rfl) ?_
  intro p_ e_ s_ m_ a_ b_ me_ c_ ls C0 hP hS hl
  have hx := C0.1
  have hb := C0.2.1
  have hts := C0.2.2.2.2.1
  have hD : zD E (zA E s_.heap.size) := C0.2.2.2.2.2.2.2.2
  have hA : ∀ q : Nat, s_.heap.size ≤ q → zA E s_.heap.size q := fun q h => Or.inr h
  refine z_gen (fun Q_ hQ_ => ?_)
  have hl : lv_has ls 2 [(0, .ref (E.1 92)), (1, .int cd)] := hl
  refine lv_aload_n hx hb dX12_no_0 rfl (lv_at hl 0 rfl) ?_
  refine z_get C0 hP (C := RX12) (T := TX12) (N := 21) (ci := 10) (index := 28) (k := 92) (ref := "WetSuitPedalsShoesModel") (zk_lt (rfl : zk 92 = 10) (by decide)) (zd_10 E (rfl : zk 92 = 10) _) rfl (zmi inU_12) 7 (by decide) (zm flRX12_28) rfl (v := .ref (E.1 99)) (rfl) dX12_no_1 ?_
  refine lv_iload_n hx hb dX12_no_4 rfl (lv_at hl 1 rfl) ?_
  refine lv_ineg hx hb dX12_no_5 ?_
  refine z_eqi (y := (nI k)) (hcd) ?_
  refine lv_dup2_11 hx hb dX12_no_6 rfl rfl ?_
  refine z_iald C0 hP (k := 99) (i := k) (v := (G 99 k)) (rfl : zk 99 = 11) (Nat.lt_of_lt_of_eq (show k < 7 by omega) (rfl : zl 99 = 7).symm) rfl dX12_no_7 (rfl) ?_
  refine lv_iconst (v := (1 : Int32)) hx hb dX12_no_8 (by decide) ?_
  refine lv_iadd hx hb dX12_no_9 ?_
  refine z_iast C0 hP hD hS (k := 99) (i := k) (v := ((G 99 k) + (1 : Int32))) (F := G 99) (rfl) (rfl : zk 99 = 11) (Nat.lt_of_lt_of_eq (show k < 7 by omega) (rfl : zl 99 = 7).symm) rfl dX12_no_10 (fun H locs hP hS => ?_)
  refine lv_iload_n hx hb dX12_no_11 rfl (lv_at hl 1 rfl) ?_
  subst hQ_
  exact z_iret C0 hP hS (v := cd) (by exact ⟨rfl, rfl⟩) dX12_no_12
theorem kkRX12_55 : Cond.constant RX12 55 (1000000000) ∈ zU := zU_m 1023 (by decide +kernel) rfl
theorem mlRX12_56 : Cond.methodLink RX12 56 yX12_no ∈ zU := zU_m 876 (by decide +kernel) rfl
theorem coX12_no : Cond.code yX12_no cX12_no 2 (some .int) ∈ zU := zU_m 879 (by decide +kernel) rfl
theorem imX12_no : Cond.instanceMethod yX12_no ∈ zU := zU_m 878 (by decide +kernel) rfl
theorem seX12_no : Cond.selects RX12 yX12_no yX12_no ∈ zU := zU_m 26 (by decide +kernel) rfl
set_option maxHeartbeats 4000000 in
set_option maxRecDepth 100000 in
theorem c_X12_noFar (l : Launch) (E : zE) (G : zG) (cd : Int32) (k : Nat) (hk : k < 7) (hcd : -cd = nI k) : zMi l yX12_noFar wsX12_noFar ({ frames := 1, cells := 0, slots := 0, locals := 21 } : Room) E G [.ref (E.1 92), .int cd] (fun r G1 => 1000000000 - cd = r ∧ g1 G 99 (upd (G 99) k (G 99 k + 1)) = G1) := by
  refine zOf (cc := cX12_noFar) (nL := 2) (ret := (some .int)) RX12 (by decide) rfl rfl (Nat.le_of_ble_eq_true rfl) ?_
  intro p_ e_ s_ m_ a_ b_ me_ c_ ls C0 hP hS hl
  have hx := C0.1
  have hb := C0.2.1
  have hts := C0.2.2.2.2.1
  have hD : zD E (zA E s_.heap.size) := C0.2.2.2.2.2.2.2.2
  have hA : ∀ q : Nat, s_.heap.size ≤ q → zA E s_.heap.size q := fun q h => Or.inr h
  refine z_gen (fun Q_ hQ_ => ?_)
  have hl : lv_has ls 2 [(0, .ref (E.1 92)), (1, .int cd)] := hl
  refine lv_ldc (v := (1000000000 : Int32)) hx hb C0.2.2.2.1 (hts _ (zm kkRX12_55)) dX12_noFar_0 ?_
  refine lv_aload_n hx hb dX12_noFar_2 rfl (lv_at hl 0 rfl) ?_
  refine lv_iload_n hx hb dX12_noFar_3 rfl (lv_at hl 1 rfl) ?_
  refine z_Vi C0 hP hD hA hS (As := [.int cd]) (rest := [.int (1000000000 : Int32)]) (k := 92) (c_X12_no l E _ cd k hk hcd) (cwV 1 hts (zgV zbw mlRX12_56 imX12_no seX12_no iniRX12 coX12_no) rfl rfl rfl (by decide +kernel) ⟨Nat.le_of_ble_eq_true rfl, Nat.le_of_ble_eq_true rfl⟩) (zk_lt (rfl : zk 92 = 10) (by decide)) (zd_10 E (rfl : zk 92 = 10) _) rfl rfl rfl hl.1 rfl (Nat.le_of_ble_eq_true rfl) dX12_noFar_4 ⟨Nat.zero_le _, Nat.zero_le _⟩ (fun r1 G1 H locs hw1 hP hS => ?_)
  obtain ⟨rfl, rfl⟩ := hw1
  refine lv_isub hx hb dX12_noFar_7 ?_
  subst hQ_
  exact z_iret C0 hP hS (v := ((1000000000 : Int32) - cd)) (by exact ⟨rfl, rfl⟩) dX12_noFar_8
theorem kkRX12_60 : Cond.constantLong RX12 60 (4000000000000000000) ∈ zU := zU_m 1076 (by decide +kernel) rfl
set_option maxHeartbeats 4000000 in
set_option maxRecDepth 100000 in
theorem c_X12_noWide (l : Launch) (E : zE) (G : zG) (cd : Int32) (k : Nat) (hk : k < 7) (hcd : -cd = nI k) : zMl l yX12_noWide wsX12_noWide ({ frames := 1, cells := 0, slots := 0, locals := 21 } : Room) E G [.ref (E.1 92), .int cd] (fun r G1 => 4000000000000000000 - cd.toInt64 = r ∧ g1 G 99 (upd (G 99) k (G 99 k + 1)) = G1) := by
  refine zOf (cc := cX12_noWide) (nL := 2) (ret := (some .long)) RX12 (by decide) rfl rfl (Nat.le_of_ble_eq_true rfl) ?_
  intro p_ e_ s_ m_ a_ b_ me_ c_ ls C0 hP hS hl
  have hx := C0.1
  have hb := C0.2.1
  have hts := C0.2.2.2.2.1
  have hD : zD E (zA E s_.heap.size) := C0.2.2.2.2.2.2.2.2
  have hA : ∀ q : Nat, s_.heap.size ≤ q → zA E s_.heap.size q := fun q h => Or.inr h
  refine z_gen (fun Q_ hQ_ => ?_)
  have hl : lv_has ls 2 [(0, .ref (E.1 92)), (1, .int cd)] := hl
  refine lv_ldc2 (v := (4000000000000000000 : Int64)) hx hb C0.2.2.2.1 (hts _ (zm kkRX12_60)) dX12_noWide_0 ?_
  refine lv_aload_n hx hb dX12_noWide_3 rfl (lv_at hl 0 rfl) ?_
  refine lv_iload_n hx hb dX12_noWide_4 rfl (lv_at hl 1 rfl) ?_
  refine z_Vi C0 hP hD hA hS (As := [.int cd]) (rest := [.long (4000000000000000000 : Int64)]) (k := 92) (c_X12_no l E _ cd k hk hcd) (cwV 1 hts (zgV zbw mlRX12_56 imX12_no seX12_no iniRX12 coX12_no) rfl rfl rfl (by decide +kernel) ⟨Nat.le_of_ble_eq_true rfl, Nat.le_of_ble_eq_true rfl⟩) (zk_lt (rfl : zk 92 = 10) (by decide)) (zd_10 E (rfl : zk 92 = 10) _) rfl rfl rfl hl.1 rfl (Nat.le_of_ble_eq_true rfl) dX12_noWide_5 ⟨Nat.zero_le _, Nat.zero_le _⟩ (fun r1 G1 H locs hw1 hP hS => ?_)
  obtain ⟨rfl, rfl⟩ := hw1
  refine lv_i2l (v := cd.toInt64) hx hb dX12_noWide_8 rfl ?_
  refine lv_lsub hx hb dX12_noWide_9 ?_
  subst hQ_
  exact z_lret C0 hP hS (v := ((4000000000000000000 : Int64) - cd.toInt64)) (by exact ⟨rfl, rfl⟩) dX12_noWide_10
theorem mlRX12_66 : Cond.methodLink RX12 66 yX12_of ∈ zU := zU_m 921 (by decide +kernel) rfl
theorem coX12_of : Cond.code yX12_of cX12_of 2 (some .int) ∈ zU := zU_m 923 (by decide +kernel) rfl
theorem stX12_of : Cond.static yX12_of ∈ zU := zU_m 922 (by decide +kernel) rfl
set_option maxHeartbeats 4000000 in
set_option maxRecDepth 100000 in
theorem c_X12_isRide (l : Launch) (E : zE) (G : zG) (q i : Nat) (hq : zIs q tArr102) (hi : i < 10) : zMi l yX12_isRide wsX12_isRide ({ frames := 1, cells := 0, slots := 0, locals := 22 } : Room) E G [.ref (E.1 q), .int (nI i)] (fun r G1 => s_isRide (G q (2 + 3 * i)) = r ∧ G = G1) := by
  refine zOf (cc := cX12_isRide) (nL := 2) (ret := (some .boolean)) RX12 (by decide) rfl rfl (Nat.le_of_ble_eq_true rfl) ?_
  intro p_ e_ s_ m_ a_ b_ me_ c_ ls C0 hP hS hl
  have hx := C0.1
  have hb := C0.2.1
  have hts := C0.2.2.2.2.1
  have hD : zD E (zA E s_.heap.size) := C0.2.2.2.2.2.2.2.2
  have hA : ∀ q : Nat, s_.heap.size ≤ q → zA E s_.heap.size q := fun q h => Or.inr h
  refine z_gen (fun Q_ hQ_ => ?_)
  have hl : lv_has ls 2 [(0, .ref (E.1 q)), (1, .int (nI i))] := hl
  refine lv_aload_n hx hb dX12_isRide_0 rfl (lv_at hl 0 rfl) ?_
  refine lv_iload_n hx hb dX12_isRide_1 rfl (lv_at hl 1 rfl) ?_
  refine lv_iconst (v := (0 : Int32)) hx hb dX12_isRide_2 (by decide) ?_
  refine z_Si C0 hP hD hA hS (As := [.int (nI i), .int (0 : Int32)]) (rest := [.ref (E.1 q)]) (c_X12_of l E _ i 0) (va_cwS 2 hts (zgS zbw mlRX12_66 stX12_of iniRX12 coX12_of) rfl rfl rfl (by decide +kernel) ⟨Nat.le_of_ble_eq_true rfl, Nat.le_of_ble_eq_true rfl⟩) rfl hl.1 rfl (Nat.le_of_ble_eq_true rfl) dX12_isRide_3 ⟨Nat.zero_le _, Nat.zero_le _⟩ (fun r1 G1 H locs hw1 hP hS => ?_)
  obtain ⟨hr1, rfl⟩ := hw1
  subst hr1
  refine z_eqi (y := (nI (2 + 3 * i))) (congrArg nI (by omega)) ?_
  refine z_iald C0 hP (k := q) (i := 2 + 3 * i) (v := (G q (2 + 3 * i))) (hq (0, 11, 102) (by decide)).1 (Nat.lt_of_lt_of_eq (show 2 + 3 * i < 102 by omega) (hq (0, 11, 102) (by decide)).2.symm) rfl dX12_isRide_6 (rfl) ?_
  refine lv_iconst (v := (2 : Int32)) hx hb dX12_isRide_7 (by decide) ?_
  refine lv_iconst (v := (4 : Int32)) hx hb dX12_isRide_8 (by decide) ?_
  refine z_Si C0 hP hD hA hS (As := [.int (G q (2 + 3 * i)), .int (2 : Int32), .int (4 : Int32)]) (rest := []) (c_X12_isIn l E _ (G q (2 + 3 * i)) (2 : Int32) (4 : Int32)) (va_cwS 3 hts (zgS zbw mlRX12_62 stX12_isIn iniRX12 coX12_isIn) rfl rfl rfl (by decide +kernel) ⟨Nat.le_of_ble_eq_true rfl, Nat.le_of_ble_eq_true rfl⟩) rfl hl.1 rfl (Nat.le_of_ble_eq_true rfl) dX12_isRide_9 ⟨Nat.zero_le _, Nat.zero_le _⟩ (fun r2 G2 H locs hw2 hP hS => ?_)
  rcases hw2 with ⟨rfl, rfl, hi1_2, hi2_2⟩ | ⟨rfl, rfl, hi0_2⟩
  · skip
    have hi3_2 := Int32.not_lt.mpr hi1_2
    have hi4_2 := Int32.not_lt.mpr hi2_2
    subst hQ_
    exact z_zret C0 hP hS (v := (1 : Int32)) (by decide) (by exact ⟨z_ride1 hi1_2 hi2_2, rfl⟩) dX12_isRide_12
  · skip
    have hi5_2 := z_nin hi0_2
    subst hQ_
    exact z_zret C0 hP hS (v := (0 : Int32)) (by decide) (by exact ⟨z_ride0 hi0_2, rfl⟩) dX12_isRide_12
set_option maxHeartbeats 4000000 in
set_option maxRecDepth 100000 in
theorem c_X12_takes (l : Launch) (E : zE) (G : zG) (q i : Nat) (hq : zIs q tArr102) (hi : i < 10) : zMi l yX12_takes wsX12_takes ({ frames := 1, cells := 0, slots := 0, locals := 21 } : Room) E G [.ref (E.1 q), .int (nI i)] (fun r G1 => m_takes (G q (2 + 3 * i)) = r ∧ G = G1) := by
  refine zOf (cc := cX12_takes) (nL := 3) (ret := (some .int)) RX12 (by decide) rfl rfl (Nat.le_of_ble_eq_true rfl) ?_
  intro p_ e_ s_ m_ a_ b_ me_ c_ ls C0 hP hS hl
  have hx := C0.1
  have hb := C0.2.1
  have hts := C0.2.2.2.2.1
  have hD : zD E (zA E s_.heap.size) := C0.2.2.2.2.2.2.2.2
  have hA : ∀ q : Nat, s_.heap.size ≤ q → zA E s_.heap.size q := fun q h => Or.inr h
  refine z_gen (fun Q_ hQ_ => ?_)
  have hl : lv_has ls 3 [(0, .ref (E.1 q)), (1, .int (nI i))] := hl
  refine lv_aload_n hx hb dX12_takes_0 rfl (lv_at hl 0 rfl) ?_
  refine lv_iload_n hx hb dX12_takes_1 rfl (lv_at hl 1 rfl) ?_
  refine lv_iconst (v := (0 : Int32)) hx hb dX12_takes_2 (by decide) ?_
  refine z_Si C0 hP hD hA hS (As := [.int (nI i), .int (0 : Int32)]) (rest := [.ref (E.1 q)]) (c_X12_of l E _ i 0) (va_cwS 2 hts (zgS zbw mlRX12_66 stX12_of iniRX12 coX12_of) rfl rfl rfl (by decide +kernel) ⟨Nat.le_of_ble_eq_true rfl, Nat.le_of_ble_eq_true rfl⟩) rfl hl.1 rfl (Nat.le_of_ble_eq_true rfl) dX12_takes_3 ⟨Nat.zero_le _, Nat.zero_le _⟩ (fun r1 G1 H locs hw1 hP hS => ?_)
  obtain ⟨hr1, rfl⟩ := hw1
  subst hr1
  refine z_eqi (y := (nI (2 + 3 * i))) (congrArg nI (by omega)) ?_
  refine z_iald C0 hP (k := q) (i := 2 + 3 * i) (v := (G q (2 + 3 * i))) (hq (0, 11, 102) (by decide)).1 (Nat.lt_of_lt_of_eq (show 2 + 3 * i < 102 by omega) (hq (0, 11, 102) (by decide)).2.symm) rfl dX12_takes_6 (rfl) ?_
  refine lv_istore_n (lv' := [(2, .int (G q (2 + 3 * i))), (0, .ref (E.1 q)), (1, .int (nI i))]) hx hb dX12_takes_7 rfl hl (by decide) rfl (fun ls hl => ?_)
  refine lv_iload_n hx hb dX12_takes_8 rfl (lv_at hl 0 rfl) ?_
  refine lv_bipush (v := (6 : Int32)) hx hb dX12_takes_9 (by decide) ?_
  refine lv_icmp_ne (tgt := 18) hx hb dX12_takes_11 (by decide) (fun c_11 => ?_) (fun c_11 => ?_)
  · skip
    refine lv_iload_n hx hb dX12_takes_18 rfl (lv_at hl 0 rfl) ?_
    refine lv_iconst (v := (2 : Int32)) hx hb dX12_takes_19 (by decide) ?_
    refine lv_icmp_ge (tgt := 27) hx hb dX12_takes_20 (by decide) (fun c_20 => ?_) (fun c_20 => ?_)
    · skip
      have d_20 := Int32.not_lt.mpr c_20
      refine lv_iload_n hx hb dX12_takes_27 rfl (lv_at hl 0 rfl) ?_
      refine lv_iconst (v := (3 : Int32)) hx hb dX12_takes_28 (by decide) ?_
      refine lv_icmp_ne (tgt := 36) hx hb dX12_takes_29 (by decide) (fun c_29 => ?_) (fun c_29 => ?_)
      · skip
        refine lv_iconst (v := (2 : Int32)) hx hb dX12_takes_36 (by decide) ?_
        subst hQ_
        exact z_iret C0 hP hS (v := (2 : Int32)) (by refine ⟨?_, rfl⟩; simp [m_takes, c_11, d_20, c_29]) dX12_takes_37
      · skip
        refine lv_iconst (v := (3 : Int32)) hx hb dX12_takes_32 (by decide) ?_
        refine lv_goto (tgt := 37) hx hb dX12_takes_33 (by decide) ?_
        subst hQ_
        exact z_iret C0 hP hS (v := (3 : Int32)) (by refine ⟨?_, rfl⟩; simp [m_takes, c_11, d_20, c_29]) dX12_takes_37
    · skip
      have d_20 := Int32.not_le.mp c_20
      refine lv_iconst (v := (1 : Int32)) hx hb dX12_takes_23 (by decide) ?_
      refine lv_goto (tgt := 37) hx hb dX12_takes_24 (by decide) ?_
      subst hQ_
      exact z_iret C0 hP hS (v := (1 : Int32)) (by refine ⟨?_, rfl⟩; simp [m_takes, c_11, d_20]) dX12_takes_37
  · skip
    refine lv_iconst (v := (0 : Int32)) hx hb dX12_takes_14 (by decide) ?_
    refine lv_goto (tgt := 37) hx hb dX12_takes_15 (by decide) ?_
    subst hQ_
    exact z_iret C0 hP hS (v := (0 : Int32)) (by refine ⟨?_, rfl⟩; simp [m_takes, c_11]) dX12_takes_37
theorem mlRX12_70 : Cond.methodLink RX12 70 yX12_athleteAt ∈ zU := zU_m 924 (by decide +kernel) rfl
theorem coX12_athleteAt : Cond.code yX12_athleteAt cX12_athleteAt 2 (some .int) ∈ zU := zU_m 926 (by decide +kernel) rfl
theorem stX12_athleteAt : Cond.static yX12_athleteAt ∈ zU := zU_m 925 (by decide +kernel) rfl
theorem mlRX12_73 : Cond.methodLink RX12 73 yX12_isRide ∈ zU := zU_m 991 (by decide +kernel) rfl
theorem coX12_isRide : Cond.code yX12_isRide cX12_isRide 2 (some .boolean) ∈ zU := zU_m 993 (by decide +kernel) rfl
theorem stX12_isRide : Cond.static yX12_isRide ∈ zU := zU_m 992 (by decide +kernel) rfl
set_option maxHeartbeats 4000000 in
set_option maxRecDepth 100000 in
theorem c_X12_plain (l : Launch) (E : zE) (G : zG) (q a i : Nat) (hq : zIs q tArr102) (ha : a < 5) (hi : i < 10) : zMi l yX12_plain wsX12_plain ({ frames := 2, cells := 0, slots := 0, locals := 43 } : Room) E G [.ref (E.1 q), .int (nI a), .int (nI i)] (fun r G1 => m_plain (G q) a i = r ∧ G = G1) := by
  refine zOf (cc := cX12_plain) (nL := 7) (ret := (some .int)) RX12 (by decide) rfl rfl (Nat.le_of_ble_eq_true rfl) ?_
  intro p_ e_ s_ m_ a_ b_ me_ c_ ls C0 hP hS hl
  have hx := C0.1
  have hb := C0.2.1
  have hts := C0.2.2.2.2.1
  have hD : zD E (zA E s_.heap.size) := C0.2.2.2.2.2.2.2.2
  have hA : ∀ q : Nat, s_.heap.size ≤ q → zA E s_.heap.size q := fun q h => Or.inr h
  refine z_gen (fun Q_ hQ_ => ?_)
  have hl : lv_has ls 7 [(0, .ref (E.1 q)), (1, .int (nI a)), (2, .int (nI i))] := hl
  refine lv_aload_n hx hb dX12_plain_0 rfl (lv_at hl 0 rfl) ?_
  refine lv_iload_n hx hb dX12_plain_1 rfl (lv_at hl 2 rfl) ?_
  refine lv_iconst (v := (1 : Int32)) hx hb dX12_plain_2 (by decide) ?_
  refine z_Si C0 hP hD hA hS (As := [.int (nI i), .int (1 : Int32)]) (rest := [.ref (E.1 q)]) (c_X12_of l E _ i 1) (va_cwS 2 hts (zgS zbw mlRX12_66 stX12_of iniRX12 coX12_of) rfl rfl rfl (by decide +kernel) ⟨Nat.le_of_ble_eq_true rfl, Nat.le_of_ble_eq_true rfl⟩) rfl hl.1 rfl (Nat.le_of_ble_eq_true rfl) dX12_plain_3 ⟨Nat.zero_le _, Nat.zero_le _⟩ (fun r1 G1 H locs hw1 hP hS => ?_)
  obtain ⟨hr1, rfl⟩ := hw1
  subst hr1
  refine z_eqi (y := (nI (3 + 3 * i))) (congrArg nI (by omega)) ?_
  refine z_iald C0 hP (k := q) (i := 3 + 3 * i) (v := (G q (3 + 3 * i))) (hq (0, 11, 102) (by decide)).1 (Nat.lt_of_lt_of_eq (show 3 + 3 * i < 102 by omega) (hq (0, 11, 102) (by decide)).2.symm) rfl dX12_plain_6 (rfl) ?_
  refine lv_istore_n (lv' := [(3, .int (G q (3 + 3 * i))), (0, .ref (E.1 q)), (1, .int (nI a)), (2, .int (nI i))]) hx hb dX12_plain_7 rfl hl (by decide) rfl (fun ls hl => ?_)
  refine lv_aload_n hx hb dX12_plain_8 rfl (lv_at hl 1 rfl) ?_
  refine lv_iload_n hx hb dX12_plain_9 rfl (lv_at hl 3 rfl) ?_
  refine lv_iconst (v := (2 : Int32)) hx hb dX12_plain_10 (by decide) ?_
  refine z_Si C0 hP hD hA hS (As := [.int (nI i), .int (2 : Int32)]) (rest := [.ref (E.1 q)]) (c_X12_of l E _ i 2) (va_cwS 2 hts (zgS zbw mlRX12_66 stX12_of iniRX12 coX12_of) rfl rfl rfl (by decide +kernel) ⟨Nat.le_of_ble_eq_true rfl, Nat.le_of_ble_eq_true rfl⟩) rfl hl.1 rfl (Nat.le_of_ble_eq_true rfl) dX12_plain_11 ⟨Nat.zero_le _, Nat.zero_le _⟩ (fun r2 G2 H locs hw2 hP hS => ?_)
  obtain ⟨hr2, rfl⟩ := hw2
  subst hr2
  refine z_eqi (y := (nI (4 + 3 * i))) (congrArg nI (by omega)) ?_
  refine z_iald C0 hP (k := q) (i := 4 + 3 * i) (v := (G q (4 + 3 * i))) (hq (0, 11, 102) (by decide)).1 (Nat.lt_of_lt_of_eq (show 4 + 3 * i < 102 by omega) (hq (0, 11, 102) (by decide)).2.symm) rfl dX12_plain_14 (rfl) ?_
  refine lv_istore (lv' := [(4, .int (G q (4 + 3 * i))), (3, .int (G q (3 + 3 * i))), (0, .ref (E.1 q)), (1, .int (nI a)), (2, .int (nI i))]) hx hb dX12_plain_15 hl (by decide) rfl (fun ls hl => ?_)
  refine lv_iload hx hb dX12_plain_17 (lv_at hl 0 rfl) ?_
  refine lv_bipush (v := (20 : Int32)) hx hb dX12_plain_19 (by decide) ?_
  refine lv_aload_n hx hb dX12_plain_21 rfl (lv_at hl 2 rfl) ?_
  refine lv_iload_n hx hb dX12_plain_22 rfl (lv_at hl 3 rfl) ?_
  refine lv_iconst (v := (0 : Int32)) hx hb dX12_plain_23 (by decide) ?_
  refine z_Si C0 hP hD hA hS (As := [.int (nI a), .int (0 : Int32)]) (rest := [.ref (E.1 q), .int (20 : Int32), .int (G q (4 + 3 * i))]) (c_X12_athleteAt l E _ a 0) (va_cwS 2 hts (zgS zbw mlRX12_70 stX12_athleteAt iniRX12 coX12_athleteAt) rfl rfl rfl (by decide +kernel) ⟨Nat.le_of_ble_eq_true rfl, Nat.le_of_ble_eq_true rfl⟩) rfl hl.1 rfl (Nat.le_of_ble_eq_true rfl) dX12_plain_24 ⟨Nat.zero_le _, Nat.zero_le _⟩ (fun r3 G3 H locs hw3 hP hS => ?_)
  obtain ⟨hr3, rfl⟩ := hw3
  subst hr3
  refine z_eqi (y := (nI (32 + 4 * a))) (congrArg nI (by omega)) ?_
  refine z_iald C0 hP (k := q) (i := 32 + 4 * a) (v := (G q (32 + 4 * a))) (hq (0, 11, 102) (by decide)).1 (Nat.lt_of_lt_of_eq (show 32 + 4 * a < 102 by omega) (hq (0, 11, 102) (by decide)).2.symm) rfl dX12_plain_27 (rfl) ?_
  refine lv_isub hx hb dX12_plain_28 ?_
  refine lv_imul hx hb dX12_plain_29 ?_
  refine lv_istore (lv' := [(5, .int ((G q (4 + 3 * i)) * ((20 : Int32) - (G q (32 + 4 * a))))), (4, .int (G q (4 + 3 * i))), (3, .int (G q (3 + 3 * i))), (0, .ref (E.1 q)), (1, .int (nI a)), (2, .int (nI i))]) hx hb dX12_plain_30 hl (by decide) rfl (fun ls hl => ?_)
  refine lv_iload hx hb dX12_plain_32 (lv_at hl 1 rfl) ?_
  refine lv_bipush (v := (20 : Int32)) hx hb dX12_plain_34 (by decide) ?_
  refine lv_aload_n hx hb dX12_plain_36 rfl (lv_at hl 3 rfl) ?_
  refine lv_iload_n hx hb dX12_plain_37 rfl (lv_at hl 4 rfl) ?_
  refine lv_iconst (v := (1 : Int32)) hx hb dX12_plain_38 (by decide) ?_
  refine z_Si C0 hP hD hA hS (As := [.int (nI a), .int (1 : Int32)]) (rest := [.ref (E.1 q), .int (20 : Int32), .int (G q (4 + 3 * i))]) (c_X12_athleteAt l E _ a 1) (va_cwS 2 hts (zgS zbw mlRX12_70 stX12_athleteAt iniRX12 coX12_athleteAt) rfl rfl rfl (by decide +kernel) ⟨Nat.le_of_ble_eq_true rfl, Nat.le_of_ble_eq_true rfl⟩) rfl hl.1 rfl (Nat.le_of_ble_eq_true rfl) dX12_plain_39 ⟨Nat.zero_le _, Nat.zero_le _⟩ (fun r4 G4 H locs hw4 hP hS => ?_)
  obtain ⟨hr4, rfl⟩ := hw4
  subst hr4
  refine z_eqi (y := (nI (33 + 4 * a))) (congrArg nI (by omega)) ?_
  refine z_iald C0 hP (k := q) (i := 33 + 4 * a) (v := (G q (33 + 4 * a))) (hq (0, 11, 102) (by decide)).1 (Nat.lt_of_lt_of_eq (show 33 + 4 * a < 102 by omega) (hq (0, 11, 102) (by decide)).2.symm) rfl dX12_plain_42 (rfl) ?_
  refine lv_isub hx hb dX12_plain_43 ?_
  refine lv_imul hx hb dX12_plain_44 ?_
  refine lv_istore (lv' := [(6, .int ((G q (4 + 3 * i)) * ((20 : Int32) - (G q (33 + 4 * a))))), (5, .int ((G q (4 + 3 * i)) * ((20 : Int32) - (G q (32 + 4 * a))))), (4, .int (G q (4 + 3 * i))), (3, .int (G q (3 + 3 * i))), (0, .ref (E.1 q)), (1, .int (nI a)), (2, .int (nI i))]) hx hb dX12_plain_45 hl (by decide) rfl (fun ls hl => ?_)
  refine lv_aload_n hx hb dX12_plain_47 rfl (lv_at hl 4 rfl) ?_
  refine lv_iload_n hx hb dX12_plain_48 rfl (lv_at hl 6 rfl) ?_
  refine lv_iconst (v := (0 : Int32)) hx hb dX12_plain_49 (by decide) ?_
  refine z_Si C0 hP hD hA hS (As := [.int (nI i), .int (0 : Int32)]) (rest := [.ref (E.1 q)]) (c_X12_of l E _ i 0) (va_cwS 2 hts (zgS zbw mlRX12_66 stX12_of iniRX12 coX12_of) rfl rfl rfl (by decide +kernel) ⟨Nat.le_of_ble_eq_true rfl, Nat.le_of_ble_eq_true rfl⟩) rfl hl.1 rfl (Nat.le_of_ble_eq_true rfl) dX12_plain_50 ⟨Nat.zero_le _, Nat.zero_le _⟩ (fun r5 G5 H locs hw5 hP hS => ?_)
  obtain ⟨hr5, rfl⟩ := hw5
  subst hr5
  refine z_eqi (y := (nI (2 + 3 * i))) (congrArg nI (by omega)) ?_
  refine z_iald C0 hP (k := q) (i := 2 + 3 * i) (v := (G q (2 + 3 * i))) (hq (0, 11, 102) (by decide)).1 (Nat.lt_of_lt_of_eq (show 2 + 3 * i < 102 by omega) (hq (0, 11, 102) (by decide)).2.symm) rfl dX12_plain_53 (rfl) ?_
  rcases z_sw ((G q (2 + 3 * i))) 0 6 with hsw | ⟨k_, hk_, hsw⟩
  · skip
    refine lv_tableOut (tgt := 161) hx hb dX12_plain_54 (z_swo hsw rfl rfl) (by decide) ?_
    have hsn_54_0 : ¬ (G q (2 + 3 * i)) = (0 : Int32) := fun q => by rw [q] at hsw; revert hsw; decide
    have hsn_54_1 : ¬ (G q (2 + 3 * i)) = (1 : Int32) := fun q => by rw [q] at hsw; revert hsw; decide
    have hsn_54_2 : ¬ (G q (2 + 3 * i)) = (2 : Int32) := fun q => by rw [q] at hsw; revert hsw; decide
    have hsn_54_3 : ¬ (G q (2 + 3 * i)) = (3 : Int32) := fun q => by rw [q] at hsw; revert hsw; decide
    have hsn_54_4 : ¬ (G q (2 + 3 * i)) = (4 : Int32) := fun q => by rw [q] at hsw; revert hsw; decide
    have hsn_54_5 : ¬ (G q (2 + 3 * i)) = (5 : Int32) := fun q => by rw [q] at hsw; revert hsw; decide
    refine lv_bipush (v := (10 : Int32)) hx hb dX12_plain_161 (by decide) ?_
    refine lv_iconst (v := (5 : Int32)) hx hb dX12_plain_163 (by decide) ?_
    refine lv_iload_n hx hb dX12_plain_164 rfl (lv_at hl 3 rfl) ?_
    refine lv_imul hx hb dX12_plain_165 ?_
    refine lv_iadd hx hb dX12_plain_166 ?_
    subst hQ_
    exact z_iret C0 hP hS (v := ((10 : Int32) + ((5 : Int32) * (G q (3 + 3 * i))))) (by refine ⟨?_, rfl⟩; simp [m_plain, hsn_54_0, hsn_54_1, hsn_54_2, hsn_54_3, hsn_54_4, hsn_54_5]) dX12_plain_167
  · skip
    rcases (show k_ = 0 ∨ k_ = 1 ∨ k_ = 2 ∨ k_ = 3 ∨ k_ = 4 ∨ k_ = 5 by omega) with rfl | rfl | rfl | rfl | rfl | rfl
    · skip
      have hsw_54 : (G q (2 + 3 * i)) = (0 : Int32) := z_swi hsw (by decide)
      refine lv_tableIn (tgt := 92) (off := 38) hx hb dX12_plain_54 (by rw [hsw_54]; decide) (by rw [hsw_54]; decide) (by rw [hsw_54]; rfl) (by decide) ?_
      refine lv_iload hx hb dX12_plain_92 (lv_at hl 1 rfl) ?_
      subst hQ_
      exact z_iret C0 hP hS (v := ((G q (4 + 3 * i)) * ((20 : Int32) - (G q (32 + 4 * a))))) (by refine ⟨?_, rfl⟩; simp [m_plain, hsw_54]) dX12_plain_94
    · skip
      have hsw_54 : (G q (2 + 3 * i)) = (1 : Int32) := z_swi hsw (by decide)
      refine lv_tableIn (tgt := 95) (off := 41) hx hb dX12_plain_54 (by rw [hsw_54]; decide) (by rw [hsw_54]; decide) (by rw [hsw_54]; rfl) (by decide) ?_
      refine lv_iload hx hb dX12_plain_95 (lv_at hl 1 rfl) ?_
      refine lv_iload hx hb dX12_plain_97 (lv_at hl 2 rfl) ?_
      refine lv_iload_n hx hb dX12_plain_99 rfl (lv_at hl 3 rfl) ?_
      refine lv_imul hx hb dX12_plain_100 ?_
      refine lv_isub hx hb dX12_plain_101 ?_
      subst hQ_
      exact z_iret C0 hP hS (v := (((G q (4 + 3 * i)) * ((20 : Int32) - (G q (32 + 4 * a)))) - ((G q (4 + 3 * i)) * (G q (3 + 3 * i))))) (by refine ⟨?_, rfl⟩; simp [m_plain, hsw_54]) dX12_plain_102
    · skip
      have hsw_54 : (G q (2 + 3 * i)) = (2 : Int32) := z_swi hsw (by decide)
      refine lv_tableIn (tgt := 103) (off := 49) hx hb dX12_plain_54 (by rw [hsw_54]; decide) (by rw [hsw_54]; decide) (by rw [hsw_54]; rfl) (by decide) ?_
      refine lv_iload hx hb dX12_plain_103 (lv_at hl 0 rfl) ?_
      subst hQ_
      exact z_iret C0 hP hS (v := ((G q (4 + 3 * i)) * ((20 : Int32) - (G q (33 + 4 * a))))) (by refine ⟨?_, rfl⟩; simp [m_plain, hsw_54]) dX12_plain_105
    · skip
      have hsw_54 : (G q (2 + 3 * i)) = (3 : Int32) := z_swi hsw (by decide)
      refine lv_tableIn (tgt := 106) (off := 52) hx hb dX12_plain_54 (by rw [hsw_54]; decide) (by rw [hsw_54]; decide) (by rw [hsw_54]; rfl) (by decide) ?_
      refine lv_iload hx hb dX12_plain_106 (lv_at hl 0 rfl) ?_
      refine lv_iload hx hb dX12_plain_108 (lv_at hl 2 rfl) ?_
      refine lv_iload_n hx hb dX12_plain_110 rfl (lv_at hl 3 rfl) ?_
      refine lv_imul hx hb dX12_plain_111 ?_
      refine lv_iadd hx hb dX12_plain_112 ?_
      subst hQ_
      exact z_iret C0 hP hS (v := (((G q (4 + 3 * i)) * ((20 : Int32) - (G q (33 + 4 * a)))) + ((G q (4 + 3 * i)) * (G q (3 + 3 * i))))) (by refine ⟨?_, rfl⟩; simp [m_plain, hsw_54]) dX12_plain_113
    · skip
      have hsw_54 : (G q (2 + 3 * i)) = (4 : Int32) := z_swi hsw (by decide)
      refine lv_tableIn (tgt := 114) (off := 60) hx hb dX12_plain_54 (by rw [hsw_54]; decide) (by rw [hsw_54]; decide) (by rw [hsw_54]; rfl) (by decide) ?_
      refine lv_iload hx hb dX12_plain_114 (lv_at hl 0 rfl) ?_
      refine lv_iload hx hb dX12_plain_116 (lv_at hl 2 rfl) ?_
      refine lv_iload_n hx hb dX12_plain_118 rfl (lv_at hl 3 rfl) ?_
      refine lv_iconst (v := (2 : Int32)) hx hb dX12_plain_119 (by decide) ?_
      refine lv_idiv hx hb dX12_plain_120 (by decide) ?_
      refine lv_imul hx hb dX12_plain_121 ?_
      refine lv_iadd hx hb dX12_plain_122 ?_
      subst hQ_
      exact z_iret C0 hP hS (v := (((G q (4 + 3 * i)) * ((20 : Int32) - (G q (33 + 4 * a)))) + ((G q (4 + 3 * i)) * ((G q (3 + 3 * i)) / (2 : Int32))))) (by refine ⟨?_, rfl⟩; simp [m_plain, hsw_54]) dX12_plain_123
    · skip
      have hsw_54 : (G q (2 + 3 * i)) = (5 : Int32) := z_swi hsw (by decide)
      refine lv_tableIn (tgt := 124) (off := 70) hx hb dX12_plain_54 (by rw [hsw_54]; decide) (by rw [hsw_54]; decide) (by rw [hsw_54]; rfl) (by decide) ?_
      refine lv_iload hx hb dX12_plain_124 (lv_at hl 2 rfl) ?_
      refine lv_bipush (v := (22 : Int32)) hx hb dX12_plain_126 (by decide) ?_
      refine lv_aload_n hx hb dX12_plain_128 rfl (lv_at hl 4 rfl) ?_
      refine lv_iload_n hx hb dX12_plain_129 rfl (lv_at hl 5 rfl) ?_
      refine lv_iconst (v := (2 : Int32)) hx hb dX12_plain_130 (by decide) ?_
      refine z_Si C0 hP hD hA hS (As := [.int (nI a), .int (2 : Int32)]) (rest := [.ref (E.1 q), .int (22 : Int32), .int (G q (4 + 3 * i))]) (c_X12_athleteAt l E _ a 2) (va_cwS 2 hts (zgS zbw mlRX12_70 stX12_athleteAt iniRX12 coX12_athleteAt) rfl rfl rfl (by decide +kernel) ⟨Nat.le_of_ble_eq_true rfl, Nat.le_of_ble_eq_true rfl⟩) rfl hl.1 rfl (Nat.le_of_ble_eq_true rfl) dX12_plain_131 ⟨Nat.zero_le _, Nat.zero_le _⟩ (fun r6 G6 H locs hw6 hP hS => ?_)
      obtain ⟨hr6, rfl⟩ := hw6
      subst hr6
      refine z_eqi (y := (nI (34 + 4 * a))) (congrArg nI (by omega)) ?_
      refine z_iald C0 hP (k := q) (i := 34 + 4 * a) (v := (G q (34 + 4 * a))) (hq (0, 11, 102) (by decide)).1 (Nat.lt_of_lt_of_eq (show 34 + 4 * a < 102 by omega) (hq (0, 11, 102) (by decide)).2.symm) rfl dX12_plain_134 (rfl) ?_
      refine lv_isub hx hb dX12_plain_135 ?_
      refine lv_imul hx hb dX12_plain_136 ?_
      refine lv_iload_n hx hb dX12_plain_137 rfl (lv_at hl 6 rfl) ?_
      refine z_0_le hx hb (a := i) (tgt := 158) dX12_plain_138 rfl (by omega) (by decide) (fun c_138 => ?_) (fun c_138 => ?_)
      · skip
        refine lv_iconst (v := (0 : Int32)) hx hb dX12_plain_158 (by decide) ?_
        refine lv_iadd hx hb dX12_plain_159 ?_
        subst hQ_
        exact z_iret C0 hP hS (v := (((G q (4 + 3 * i)) * ((22 : Int32) - (G q (34 + 4 * a)))) + (0 : Int32))) (by refine ⟨?_, rfl⟩; simp [m_plain, hsw_54, c_138]) dX12_plain_160
      · skip
        refine lv_aload_n hx hb dX12_plain_141 rfl (lv_at hl 4 rfl) ?_
        refine lv_iload_n hx hb dX12_plain_142 rfl (lv_at hl 6 rfl) ?_
        refine lv_iconst (v := (1 : Int32)) hx hb dX12_plain_143 (by decide) ?_
        refine z_isub hx hb (a := i) (b := 1) (n := i - 1) dX12_plain_144 rfl rfl (by omega) (by omega) ?_
        refine z_Si C0 hP hD hA hS (As := [.ref (E.1 q), .int (nI (i - 1))]) (rest := [.int ((G q (4 + 3 * i)) * ((22 : Int32) - (G q (34 + 4 * a))))]) (c_X12_isRide l E _ q (i - 1) hq (by omega)) (va_cwS 2 hts (zgS zbw mlRX12_73 stX12_isRide iniRX12 coX12_isRide) rfl rfl rfl (by decide +kernel) ⟨Nat.le_of_ble_eq_true rfl, Nat.le_of_ble_eq_true rfl⟩) rfl hl.1 rfl (Nat.le_of_ble_eq_true rfl) dX12_plain_145 ⟨Nat.zero_le _, Nat.zero_le _⟩ (fun r7 G7 H locs hw7 hP hS => ?_)
        obtain ⟨hr7, rfl⟩ := hw7
        subst hr7
        refine lv_if_eq (tgt := 158) hx hb dX12_plain_148 (by decide) (fun c_148 => ?_) (fun c_148 => ?_)
        · skip
          refine lv_iconst (v := (0 : Int32)) hx hb dX12_plain_158 (by decide) ?_
          refine lv_iadd hx hb dX12_plain_159 ?_
          subst hQ_
          exact z_iret C0 hP hS (v := (((G q (4 + 3 * i)) * ((22 : Int32) - (G q (34 + 4 * a)))) + (0 : Int32))) (by refine ⟨?_, rfl⟩; simp [m_plain, hsw_54, c_138, c_148]) dX12_plain_160
        · skip
          have e_148 := s_ride_ne c_148
          refine lv_iload hx hb dX12_plain_151 (lv_at hl 2 rfl) ?_
          refine lv_iload_n hx hb dX12_plain_153 rfl (lv_at hl 3 rfl) ?_
          refine lv_iadd hx hb dX12_plain_154 ?_
          refine lv_goto (tgt := 159) hx hb dX12_plain_155 (by decide) ?_
          refine lv_iadd hx hb dX12_plain_159 ?_
          subst hQ_
          exact z_iret C0 hP hS (v := (((G q (4 + 3 * i)) * ((22 : Int32) - (G q (34 + 4 * a)))) + ((G q (4 + 3 * i)) + (G q (3 + 3 * i))))) (by refine ⟨?_, rfl⟩; simp [m_plain, hsw_54, c_138, c_148, e_148]) dX12_plain_160
theorem mlRX12_77 : Cond.methodLink RX12 77 yX12_plain ∈ zU := zU_m 988 (by decide +kernel) rfl
theorem coX12_plain : Cond.code yX12_plain cX12_plain 7 (some .int) ∈ zU := zU_m 990 (by decide +kernel) rfl
theorem stX12_plain : Cond.static yX12_plain ∈ zU := zU_m 989 (by decide +kernel) rfl
set_option maxHeartbeats 4000000 in
set_option maxRecDepth 100000 in
theorem c_X12_secondsBy (l : Launch) (E : zE) (G : zG) (q a i : Nat) (g t : Int32) (hq : zIs q tArr102) (ha : a < 5) (hi : i < 10) : zMi l yX12_secondsBy wsX12_secondsBy ({ frames := 3, cells := 0, slots := 0, locals := 69 } : Room) E G [.ref (E.1 q), .int (nI a), .int (nI i), .int g, .int t] (fun r G1 => s_sec (m_plain (G q) a i) t g = r ∧ G = G1) := by
  refine zOf (cc := cX12_secondsBy) (nL := 6) (ret := (some .int)) RX12 (by decide) rfl rfl (Nat.le_of_ble_eq_true rfl) ?_
  intro p_ e_ s_ m_ a_ b_ me_ c_ ls C0 hP hS hl
  have hx := C0.1
  have hb := C0.2.1
  have hts := C0.2.2.2.2.1
  have hD : zD E (zA E s_.heap.size) := C0.2.2.2.2.2.2.2.2
  have hA : ∀ q : Nat, s_.heap.size ≤ q → zA E s_.heap.size q := fun q h => Or.inr h
  refine z_gen (fun Q_ hQ_ => ?_)
  have hl : lv_has ls 6 [(0, .ref (E.1 q)), (1, .int (nI a)), (2, .int (nI i)), (3, .int g), (4, .int t)] := hl
  refine lv_aload_n hx hb dX12_secondsBy_0 rfl (lv_at hl 0 rfl) ?_
  refine lv_iload_n hx hb dX12_secondsBy_1 rfl (lv_at hl 1 rfl) ?_
  refine lv_iload_n hx hb dX12_secondsBy_2 rfl (lv_at hl 2 rfl) ?_
  refine z_Si C0 hP hD hA hS (As := [.ref (E.1 q), .int (nI a), .int (nI i)]) (rest := []) (c_X12_plain l E _ q a i hq (by omega) (by omega)) (va_cwS 3 hts (zgS zbw mlRX12_77 stX12_plain iniRX12 coX12_plain) rfl rfl rfl (by decide +kernel) ⟨Nat.le_of_ble_eq_true rfl, Nat.le_of_ble_eq_true rfl⟩) rfl hl.1 rfl (Nat.le_of_ble_eq_true rfl) dX12_secondsBy_3 ⟨Nat.zero_le _, Nat.zero_le _⟩ (fun r1 G1 H locs hw1 hP hS => ?_)
  obtain ⟨hr1, rfl⟩ := hw1
  subst hr1
  refine lv_istore (lv' := [(5, .int (m_plain (G q) a i)), (0, .ref (E.1 q)), (1, .int (nI a)), (2, .int (nI i)), (3, .int g), (4, .int t)]) hx hb dX12_secondsBy_6 hl (by decide) rfl (fun ls hl => ?_)
  refine lv_iload_n hx hb dX12_secondsBy_8 rfl (lv_at hl 4 rfl) ?_
  refine lv_if_le (tgt := 26) hx hb dX12_secondsBy_9 (by decide) (fun c_9 => ?_) (fun c_9 => ?_)
  · skip
    have d_9 := Int32.not_lt.mpr c_9
    refine lv_iload hx hb dX12_secondsBy_26 (lv_at hl 0 rfl) ?_
    refine lv_iload hx hb dX12_secondsBy_28 (lv_at hl 0 rfl) ?_
    refine lv_iconst (v := (4 : Int32)) hx hb dX12_secondsBy_30 (by decide) ?_
    refine lv_idiv hx hb dX12_secondsBy_31 (by decide) ?_
    refine lv_iadd hx hb dX12_secondsBy_32 ?_
    subst hQ_
    exact z_iret C0 hP hS (v := ((m_plain (G q) a i) + ((m_plain (G q) a i) / (4 : Int32)))) (by refine ⟨?_, rfl⟩; simp [s_sec, d_9]) dX12_secondsBy_33
  · skip
    have d_9 := Int32.not_le.mp c_9
    refine lv_iload hx hb dX12_secondsBy_12 (lv_at hl 0 rfl) ?_
    refine lv_iload hx hb dX12_secondsBy_14 (lv_at hl 0 rfl) ?_
    refine lv_iload hx hb dX12_secondsBy_16 (lv_at hl 5 rfl) ?_
    refine lv_imul hx hb dX12_secondsBy_18 ?_
    refine lv_bipush (v := (10 : Int32)) hx hb dX12_secondsBy_19 (by decide) ?_
    refine lv_idiv hx hb dX12_secondsBy_21 (by decide) ?_
    refine lv_isub hx hb dX12_secondsBy_22 ?_
    refine lv_goto (tgt := 33) hx hb dX12_secondsBy_23 (by decide) ?_
    subst hQ_
    exact z_iret C0 hP hS (v := ((m_plain (G q) a i) - (((m_plain (G q) a i) * t) / (10 : Int32)))) (by refine ⟨?_, rfl⟩; simp [s_sec, d_9]) dX12_secondsBy_33
theorem mlRX12_88 : Cond.methodLink RX12 88 yX12_least ∈ zU := zU_m 1000 (by decide +kernel) rfl
theorem coX12_least : Cond.code yX12_least cX12_least 2 (some .int) ∈ zU := zU_m 1002 (by decide +kernel) rfl
theorem stX12_least : Cond.static yX12_least ∈ zU := zU_m 1001 (by decide +kernel) rfl
theorem mlRX12_81 : Cond.methodLink RX12 81 yX12_takes ∈ zU := zU_m 946 (by decide +kernel) rfl
theorem coX12_takes : Cond.code yX12_takes cX12_takes 3 (some .int) ∈ zU := zU_m 948 (by decide +kernel) rfl
theorem stX12_takes : Cond.static yX12_takes ∈ zU := zU_m 947 (by decide +kernel) rfl
theorem mlRX12_85 : Cond.methodLink RX12 85 yX12_most ∈ zU := zU_m 997 (by decide +kernel) rfl
theorem coX12_most : Cond.code yX12_most cX12_most 2 (some .int) ∈ zU := zU_m 999 (by decide +kernel) rfl
theorem stX12_most : Cond.static yX12_most ∈ zU := zU_m 998 (by decide +kernel) rfl
set_option maxHeartbeats 4000000 in
set_option maxRecDepth 100000 in
theorem c_X12_legsBehind (l : Launch) (E : zE) (G : zG) (q i : Nat) (g t : Int32) (hq : zIs q tArr102) (hi : i < 10) : zMi l yX12_legsBehind wsX12_legsBehind ({ frames := 2, cells := 0, slots := 0, locals := 43 } : Room) E G [.ref (E.1 q), .int (nI i), .int g, .int t] (fun r G1 => m_leg (G q (2 + 3 * i)) (G q (4 + 3 * i)) t g = r ∧ G = G1) := by
  refine zOf (cc := cX12_legsBehind) (nL := 5) (ret := (some .int)) RX12 (by decide) rfl rfl (Nat.le_of_ble_eq_true rfl) ?_
  intro p_ e_ s_ m_ a_ b_ me_ c_ ls C0 hP hS hl
  have hx := C0.1
  have hb := C0.2.1
  have hts := C0.2.2.2.2.1
  have hD : zD E (zA E s_.heap.size) := C0.2.2.2.2.2.2.2.2
  have hA : ∀ q : Nat, s_.heap.size ≤ q → zA E s_.heap.size q := fun q h => Or.inr h
  refine z_gen (fun Q_ hQ_ => ?_)
  have hl : lv_has ls 5 [(0, .ref (E.1 q)), (1, .int (nI i)), (2, .int g), (3, .int t)] := hl
  refine lv_iload_n hx hb dX12_legsBehind_0 rfl (lv_at hl 2 rfl) ?_
  refine lv_if_le (tgt := 28) hx hb dX12_legsBehind_1 (by decide) (fun c_1 => ?_) (fun c_1 => ?_)
  · skip
    have d_1 := Int32.not_lt.mpr c_1
    refine lv_iconst (v := (0 : Int32)) hx hb dX12_legsBehind_28 (by decide) ?_
    refine lv_istore (lv' := [(4, .int (0 : Int32)), (0, .ref (E.1 q)), (1, .int (nI i)), (2, .int g), (3, .int t)]) hx hb dX12_legsBehind_29 hl (by decide) rfl (fun ls hl => ?_)
    refine lv_aload_n hx hb dX12_legsBehind_31 rfl (lv_at hl 1 rfl) ?_
    refine lv_iload_n hx hb dX12_legsBehind_32 rfl (lv_at hl 2 rfl) ?_
    refine lv_iconst (v := (0 : Int32)) hx hb dX12_legsBehind_33 (by decide) ?_
    refine z_Si C0 hP hD hA hS (As := [.int (nI i), .int (0 : Int32)]) (rest := [.ref (E.1 q)]) (c_X12_of l E _ i 0) (va_cwS 2 hts (zgS zbw mlRX12_66 stX12_of iniRX12 coX12_of) rfl rfl rfl (by decide +kernel) ⟨Nat.le_of_ble_eq_true rfl, Nat.le_of_ble_eq_true rfl⟩) rfl hl.1 rfl (Nat.le_of_ble_eq_true rfl) dX12_legsBehind_34 ⟨Nat.zero_le _, Nat.zero_le _⟩ (fun r1 G1 H locs hw1 hP hS => ?_)
    obtain ⟨hr1, rfl⟩ := hw1
    subst hr1
    refine z_eqi (y := (nI (2 + 3 * i))) (congrArg nI (by omega)) ?_
    refine z_iald C0 hP (k := q) (i := 2 + 3 * i) (v := (G q (2 + 3 * i))) (hq (0, 11, 102) (by decide)).1 (Nat.lt_of_lt_of_eq (show 2 + 3 * i < 102 by omega) (hq (0, 11, 102) (by decide)).2.symm) rfl dX12_legsBehind_37 (rfl) ?_
    refine lv_bipush (v := (6 : Int32)) hx hb dX12_legsBehind_38 (by decide) ?_
    refine lv_icmp_ne (tgt := 55) hx hb dX12_legsBehind_40 (by decide) (fun c_40 => ?_) (fun c_40 => ?_)
    · skip
      refine lv_iload hx hb dX12_legsBehind_55 (lv_at hl 0 rfl) ?_
      subst hQ_
      exact z_iret C0 hP hS (v := (0 : Int32)) (by refine ⟨?_, rfl⟩; simp [m_leg, m_left, d_1, c_40]) dX12_legsBehind_57
    · skip
      refine lv_bipush (v := (99 : Int32)) hx hb dX12_legsBehind_43 (by decide) ?_
      refine lv_iload hx hb dX12_legsBehind_45 (lv_at hl 0 rfl) ?_
      refine lv_iconst (v := (5 : Int32)) hx hb dX12_legsBehind_47 (by decide) ?_
      refine z_iadd hx hb (a := 0) (b := 5) (n := 5) dX12_legsBehind_48 rfl rfl rfl ?_
      refine z_Si C0 hP hD hA hS (As := [.int (99 : Int32), .int (5 : Int32)]) (rest := []) (c_X12_least l E _ (99 : Int32) (5 : Int32)) (va_cwS 2 hts (zgS zbw mlRX12_88 stX12_least iniRX12 coX12_least) rfl rfl rfl (by decide +kernel) ⟨Nat.le_of_ble_eq_true rfl, Nat.le_of_ble_eq_true rfl⟩) rfl hl.1 rfl (Nat.le_of_ble_eq_true rfl) dX12_legsBehind_49 ⟨Nat.zero_le _, Nat.zero_le _⟩ (fun r2 G2 H locs hw2 hP hS => ?_)
      obtain ⟨rfl, rfl⟩ := hw2
      refine lv_goto (tgt := 57) hx hb dX12_legsBehind_52 (by decide) ?_
      subst hQ_
      exact z_iret C0 hP hS (v := (s_min (99 : Int32) (5 : Int32))) (by refine ⟨?_, rfl⟩; simp [m_leg, m_left, d_1, c_40]) dX12_legsBehind_57
  · skip
    have d_1 := Int32.not_le.mp c_1
    refine lv_iconst (v := (0 : Int32)) hx hb dX12_legsBehind_4 (by decide) ?_
    refine lv_iload_n hx hb dX12_legsBehind_5 rfl (lv_at hl 2 rfl) ?_
    refine lv_iload_n hx hb dX12_legsBehind_6 rfl (lv_at hl 3 rfl) ?_
    refine lv_aload_n hx hb dX12_legsBehind_7 rfl (lv_at hl 0 rfl) ?_
    refine lv_iload_n hx hb dX12_legsBehind_8 rfl (lv_at hl 1 rfl) ?_
    refine z_Si C0 hP hD hA hS (As := [.ref (E.1 q), .int (nI i)]) (rest := [.int t, .int g, .int (0 : Int32)]) (c_X12_takes l E _ q i hq (by omega)) (va_cwS 2 hts (zgS zbw mlRX12_81 stX12_takes iniRX12 coX12_takes) rfl rfl rfl (by decide +kernel) ⟨Nat.le_of_ble_eq_true rfl, Nat.le_of_ble_eq_true rfl⟩) rfl hl.1 rfl (Nat.le_of_ble_eq_true rfl) dX12_legsBehind_9 ⟨Nat.zero_le _, Nat.zero_le _⟩ (fun r3 G3 H locs hw3 hP hS => ?_)
    obtain ⟨hr3, rfl⟩ := hw3
    subst hr3
    refine lv_imul hx hb dX12_legsBehind_12 ?_
    refine lv_aload_n hx hb dX12_legsBehind_13 rfl (lv_at hl 0 rfl) ?_
    refine lv_iload_n hx hb dX12_legsBehind_14 rfl (lv_at hl 1 rfl) ?_
    refine lv_iconst (v := (2 : Int32)) hx hb dX12_legsBehind_15 (by decide) ?_
    refine z_Si C0 hP hD hA hS (As := [.int (nI i), .int (2 : Int32)]) (rest := [.ref (E.1 q), .int (t * (m_takes (G q (2 + 3 * i)))), .int g, .int (0 : Int32)]) (c_X12_of l E _ i 2) (va_cwS 2 hts (zgS zbw mlRX12_66 stX12_of iniRX12 coX12_of) rfl rfl rfl (by decide +kernel) ⟨Nat.le_of_ble_eq_true rfl, Nat.le_of_ble_eq_true rfl⟩) rfl hl.1 rfl (Nat.le_of_ble_eq_true rfl) dX12_legsBehind_16 ⟨Nat.zero_le _, Nat.zero_le _⟩ (fun r4 G4 H locs hw4 hP hS => ?_)
    obtain ⟨hr4, rfl⟩ := hw4
    subst hr4
    refine z_eqi (y := (nI (4 + 3 * i))) (congrArg nI (by omega)) ?_
    refine z_iald C0 hP (k := q) (i := 4 + 3 * i) (v := (G q (4 + 3 * i))) (hq (0, 11, 102) (by decide)).1 (Nat.lt_of_lt_of_eq (show 4 + 3 * i < 102 by omega) (hq (0, 11, 102) (by decide)).2.symm) rfl dX12_legsBehind_19 (rfl) ?_
    refine lv_imul hx hb dX12_legsBehind_20 ?_
    refine lv_isub hx hb dX12_legsBehind_21 ?_
    refine z_Si C0 hP hD hA hS (As := [.int (0 : Int32), .int (g - ((t * (m_takes (G q (2 + 3 * i)))) * (G q (4 + 3 * i))))]) (rest := []) (c_X12_most l E _ (0 : Int32) (g - ((t * (m_takes (G q (2 + 3 * i)))) * (G q (4 + 3 * i))))) (va_cwS 2 hts (zgS zbw mlRX12_85 stX12_most iniRX12 coX12_most) rfl rfl rfl (by decide +kernel) ⟨Nat.le_of_ble_eq_true rfl, Nat.le_of_ble_eq_true rfl⟩) rfl hl.1 rfl (Nat.le_of_ble_eq_true rfl) dX12_legsBehind_22 ⟨Nat.zero_le _, Nat.zero_le _⟩ (fun r5 G5 H locs hw5 hP hS => ?_)
    obtain ⟨rfl, rfl⟩ := hw5
    refine lv_goto (tgt := 29) hx hb dX12_legsBehind_25 (by decide) ?_
    refine lv_istore (lv' := [(4, .int (s_max (0 : Int32) (g - ((t * (m_takes (G q (2 + 3 * i)))) * (G q (4 + 3 * i)))))), (0, .ref (E.1 q)), (1, .int (nI i)), (2, .int g), (3, .int t)]) hx hb dX12_legsBehind_29 hl (by decide) rfl (fun ls hl => ?_)
    refine lv_aload_n hx hb dX12_legsBehind_31 rfl (lv_at hl 1 rfl) ?_
    refine lv_iload_n hx hb dX12_legsBehind_32 rfl (lv_at hl 2 rfl) ?_
    refine lv_iconst (v := (0 : Int32)) hx hb dX12_legsBehind_33 (by decide) ?_
    refine z_Si C0 hP hD hA hS (As := [.int (nI i), .int (0 : Int32)]) (rest := [.ref (E.1 q)]) (c_X12_of l E _ i 0) (va_cwS 2 hts (zgS zbw mlRX12_66 stX12_of iniRX12 coX12_of) rfl rfl rfl (by decide +kernel) ⟨Nat.le_of_ble_eq_true rfl, Nat.le_of_ble_eq_true rfl⟩) rfl hl.1 rfl (Nat.le_of_ble_eq_true rfl) dX12_legsBehind_34 ⟨Nat.zero_le _, Nat.zero_le _⟩ (fun r6 G6 H locs hw6 hP hS => ?_)
    obtain ⟨hr6, rfl⟩ := hw6
    subst hr6
    refine z_eqi (y := (nI (2 + 3 * i))) (congrArg nI (by omega)) ?_
    refine z_iald C0 hP (k := q) (i := 2 + 3 * i) (v := (G q (2 + 3 * i))) (hq (0, 11, 102) (by decide)).1 (Nat.lt_of_lt_of_eq (show 2 + 3 * i < 102 by omega) (hq (0, 11, 102) (by decide)).2.symm) rfl dX12_legsBehind_37 (rfl) ?_
    refine lv_bipush (v := (6 : Int32)) hx hb dX12_legsBehind_38 (by decide) ?_
    refine lv_icmp_ne (tgt := 55) hx hb dX12_legsBehind_40 (by decide) (fun c_40 => ?_) (fun c_40 => ?_)
    · skip
      refine lv_iload hx hb dX12_legsBehind_55 (lv_at hl 0 rfl) ?_
      subst hQ_
      exact z_iret C0 hP hS (v := (s_max (0 : Int32) (g - ((t * (m_takes (G q (2 + 3 * i)))) * (G q (4 + 3 * i)))))) (by refine ⟨?_, rfl⟩; simp [m_leg, m_left, d_1, c_40]) dX12_legsBehind_57
    · skip
      refine lv_bipush (v := (99 : Int32)) hx hb dX12_legsBehind_43 (by decide) ?_
      refine lv_iload hx hb dX12_legsBehind_45 (lv_at hl 0 rfl) ?_
      refine lv_iconst (v := (5 : Int32)) hx hb dX12_legsBehind_47 (by decide) ?_
      refine lv_iadd hx hb dX12_legsBehind_48 ?_
      refine z_Si C0 hP hD hA hS (As := [.int (99 : Int32), .int ((s_max (0 : Int32) (g - ((t * (m_takes (G q (2 + 3 * i)))) * (G q (4 + 3 * i))))) + (5 : Int32))]) (rest := []) (c_X12_least l E _ (99 : Int32) ((s_max (0 : Int32) (g - ((t * (m_takes (G q (2 + 3 * i)))) * (G q (4 + 3 * i))))) + (5 : Int32))) (va_cwS 2 hts (zgS zbw mlRX12_88 stX12_least iniRX12 coX12_least) rfl rfl rfl (by decide +kernel) ⟨Nat.le_of_ble_eq_true rfl, Nat.le_of_ble_eq_true rfl⟩) rfl hl.1 rfl (Nat.le_of_ble_eq_true rfl) dX12_legsBehind_49 ⟨Nat.zero_le _, Nat.zero_le _⟩ (fun r7 G7 H locs hw7 hP hS => ?_)
      obtain ⟨rfl, rfl⟩ := hw7
      refine lv_goto (tgt := 57) hx hb dX12_legsBehind_52 (by decide) ?_
      subst hQ_
      exact z_iret C0 hP hS (v := (s_min (99 : Int32) ((s_max (0 : Int32) (g - ((t * (m_takes (G q (2 + 3 * i)))) * (G q (4 + 3 * i))))) + (5 : Int32)))) (by refine ⟨?_, rfl⟩; simp [m_leg, m_left, d_1, c_40]) dX12_legsBehind_57
