/-! laid by wip/whole/vcg.py -/
set_option maxHeartbeats 4000000 in
set_option maxRecDepth 100000 in
theorem c_X1_lengths (l : Launch) (E : zE) (G : zG) (r : Nat → Int32) (n na : Nat) (hR : zFA G 1 r n na) (hn10 : n ≤ 10) (hna : na ≤ 5) : zMi l yX1_lengths wsX1_lengths ({ frames := 0, cells := 0, slots := 0, locals := 0 } : Room) E G [.ref (E.1 2)] (fun r1 G1 => q_len r n = r1 ∧ G = G1) := by
  refine zOf (cc := cX1_lengths) (nL := 3) (ret := (some .int)) RX1 (by decide) rfl rfl (Nat.le_of_ble_eq_true rfl) ?_
  intro p_ e_ s_ m_ a_ b_ me_ c_ ls C0 hP hS hl
  have hx := C0.1
  have hb := C0.2.1
  have hts := C0.2.2.2.2.1
  have hD : zD E (zA E s_.heap.size) := C0.2.2.2.2.2.2.2.2
  have hA : ∀ q : Nat, s_.heap.size ≤ q → zA E s_.heap.size q := fun q h => Or.inr h
  refine z_gen (fun Q_ hQ_ => ?_)
  have hl : lv_has ls 3 [(0, .ref (E.1 2))] := hl
  refine lv_iconst (v := (0 : Int32)) hx hb dX1_lengths_0 (by decide) ?_
  refine lv_istore_n (lv' := [(1, .int (0 : Int32)), (0, .ref (E.1 2))]) hx hb dX1_lengths_1 rfl hl (by decide) rfl (fun ls hl => ?_)
  refine lv_iconst (v := (0 : Int32)) hx hb dX1_lengths_2 (by decide) ?_
  refine lv_istore_n (lv' := [(2, .int (0 : Int32)), (1, .int (0 : Int32)), (0, .ref (E.1 2))]) hx hb dX1_lengths_3 rfl hl (by decide) rfl (fun ls hl => ?_)
  have cut_4 : ∀ (fuel : Nat), ∀ (i : Nat) (sm : Int32) (H : Heap) (locs : List Loc) (ls : Array Slot), (i ≤ n) → (sm = s_acc (fun i => r (4 + 3 * i)) 0 i) → zP E G H → va_S (zA E s_.heap.size) s_.heap H locs → lv_has ls 3 [(0, .ref (E.1 2)), (1, .int sm), (2, .int (nI i))] → n - i < fuel → W p_ l e_ ({ frames := 0, cells := 0, slots := 0, locals := 0 } : Room) s_ m_ a_ b_ me_ c_ H locs 0 0 Q_ (F0 m_ 4 ls []) := by
    intro fuel
    induction fuel with
    | zero =>
      intro i  sm  H locs ls hin hs hP hS hl hfu
      exact absurd hfu (Nat.not_lt_zero _)
    | succ fuel ih_4 =>
      intro i  sm  H locs ls hin hs hP hS hl hfu_4
      refine lv_iload_n hx hb dX1_lengths_4 rfl (lv_at hl 2 rfl) ?_
      refine lv_aload_n hx hb dX1_lengths_5 rfl (lv_at hl 0 rfl) ?_
      refine z_get C0 hP (C := RX1) (T := TX1) (N := 4) (ci := 1) (index := 9) (k := 2) (ref := "WetSuitPedalsShoes$Course") (zk_lt (rfl : zk 2 = 1) (by decide)) (zd_1 E (rfl : zk 2 = 1) _) rfl (zmi inU_1) 0 (by decide) (zm flRX1_9) rfl (v := .int (nI n)) (congrArg (fun z => some (Value.int z)) (hR.1)) dX1_lengths_6 ?_
      refine z_N_ge hx hb (a := i) (b := n) (tgt := 27) dX1_lengths_9 rfl rfl (by omega) (by omega) (by decide) (fun c_9 => ?_) (fun c_9 => ?_)
      · skip
        refine lv_iload_n hx hb dX1_lengths_27 rfl (lv_at hl 1 rfl) ?_
        subst hQ_
        exact z_iret C0 hP hS (v := sm) (by refine ⟨?_, rfl⟩; unfold q_len; rw [hs, show i = n by omega]) dX1_lengths_28
      · skip
        refine lv_iload_n hx hb dX1_lengths_12 rfl (lv_at hl 1 rfl) ?_
        refine lv_aload_n hx hb dX1_lengths_13 rfl (lv_at hl 0 rfl) ?_
        refine z_get C0 hP (C := RX1) (T := TX1) (N := 4) (ci := 1) (index := 22) (k := 2) (ref := "WetSuitPedalsShoes$Course") (zk_lt (rfl : zk 2 = 1) (by decide)) (zd_1 E (rfl : zk 2 = 1) _) rfl (zmi inU_1) 3 (by decide) (zm flRX1_22) rfl (v := .ref (E.1 5)) (rfl) dX1_lengths_14 ?_
        refine lv_iload_n hx hb dX1_lengths_17 rfl (lv_at hl 2 rfl) ?_
        refine z_iald C0 hP (k := 5) (i := i) (v := (r (4 + 3 * i))) (rfl : zk 5 = 11) (Nat.lt_of_lt_of_eq (show i < 10 by omega) (rfl : zl 5 = 10).symm) rfl dX1_lengths_18 ((hR.2.2.1 i (by omega)).2.2) ?_
        refine lv_iadd hx hb dX1_lengths_19 ?_
        refine lv_istore_n (lv' := [(1, .int (sm + (r (4 + 3 * i)))), (0, .ref (E.1 2)), (2, .int (nI i))]) hx hb dX1_lengths_20 rfl hl (by decide) rfl (fun ls hl => ?_)
        refine lv_iinc (v := (nI (i + 1))) (lv' := [(2, .int (nI (i + 1))), (1, .int (sm + (r (4 + 3 * i)))), (0, .ref (E.1 2))]) hx hb dX1_lengths_21 hl (k := 2) rfl (z_inc (by decide)) (by decide) rfl (fun ls hl => ?_)
        refine lv_goto (tgt := 4) hx hb dX1_lengths_24 (by decide) ?_
        exact ih_4 (i + 1) (sm + (r (4 + 3 * i))) _ _ _ (by first | assumption | omega) (by rw [hs]; rfl) hP hS (lv_sub hl [2, 1, 0] rfl) (by omega)
  exact cut_4 (_ + 1) 0 (0 : Int32) _ _ _ (by first | assumption | omega) (by rfl) hP hS (lv_sub hl [2, 1, 0] rfl) (Nat.lt_succ_self _)
set_option maxHeartbeats 4000000 in
set_option maxRecDepth 100000 in
theorem c_X1_changes (l : Launch) (E : zE) (G : zG) (r : Nat → Int32) (n na : Nat) (hR : zFA G 1 r n na) (hn10 : n ≤ 10) (hna : na ≤ 5) : zMi l yX1_changes wsX1_changes ({ frames := 0, cells := 0, slots := 0, locals := 0 } : Room) E G [.ref (E.1 2)] (fun r1 G1 => nI (q_chgs r n) = r1 ∧ G = G1) := by
  refine zOf (cc := cX1_changes) (nL := 3) (ret := (some .int)) RX1 (by decide) rfl rfl (Nat.le_of_ble_eq_true rfl) ?_
  intro p_ e_ s_ m_ a_ b_ me_ c_ ls C0 hP hS hl
  have hx := C0.1
  have hb := C0.2.1
  have hts := C0.2.2.2.2.1
  have hD : zD E (zA E s_.heap.size) := C0.2.2.2.2.2.2.2.2
  have hA : ∀ q : Nat, s_.heap.size ≤ q → zA E s_.heap.size q := fun q h => Or.inr h
  refine z_gen (fun Q_ hQ_ => ?_)
  have hl : lv_has ls 3 [(0, .ref (E.1 2))] := hl
  refine lv_iconst (v := (0 : Int32)) hx hb dX1_changes_0 (by decide) ?_
  refine lv_istore_n (lv' := [(1, .int (0 : Int32)), (0, .ref (E.1 2))]) hx hb dX1_changes_1 rfl hl (by decide) rfl (fun ls hl => ?_)
  refine lv_iconst (v := (0 : Int32)) hx hb dX1_changes_2 (by decide) ?_
  refine lv_istore_n (lv' := [(2, .int (0 : Int32)), (1, .int (0 : Int32)), (0, .ref (E.1 2))]) hx hb dX1_changes_3 rfl hl (by decide) rfl (fun ls hl => ?_)
  have cut_4 : ∀ (fuel : Nat), ∀ (i k : Nat) (H : Heap) (locs : List Loc) (ls : Array Slot), (i ≤ n) → (k = s_cnt (fun i => decide (r (2 + 3 * i) = 6)) i) → zP E G H → va_S (zA E s_.heap.size) s_.heap H locs → lv_has ls 3 [(0, .ref (E.1 2)), (1, .int (nI k)), (2, .int (nI i))] → n - i < fuel → W p_ l e_ ({ frames := 0, cells := 0, slots := 0, locals := 0 } : Room) s_ m_ a_ b_ me_ c_ H locs 0 0 Q_ (F0 m_ 4 ls []) := by
    intro fuel
    induction fuel with
    | zero =>
      intro i k  H locs ls hin hk hP hS hl hfu
      exact absurd hfu (Nat.not_lt_zero _)
    | succ fuel ih_4 =>
      intro i k  H locs ls hin hk hP hS hl hfu_4
      refine lv_iload_n hx hb dX1_changes_4 rfl (lv_at hl 2 rfl) ?_
      refine lv_aload_n hx hb dX1_changes_5 rfl (lv_at hl 0 rfl) ?_
      refine z_get C0 hP (C := RX1) (T := TX1) (N := 4) (ci := 1) (index := 9) (k := 2) (ref := "WetSuitPedalsShoes$Course") (zk_lt (rfl : zk 2 = 1) (by decide)) (zd_1 E (rfl : zk 2 = 1) _) rfl (zmi inU_1) 0 (by decide) (zm flRX1_9) rfl (v := .int (nI n)) (congrArg (fun z => some (Value.int z)) (hR.1)) dX1_changes_6 ?_
      refine z_N_ge hx hb (a := i) (b := n) (tgt := 32) dX1_changes_9 rfl rfl (by omega) (by omega) (by decide) (fun c_9 => ?_) (fun c_9 => ?_)
      · skip
        refine lv_iload_n hx hb dX1_changes_32 rfl (lv_at hl 1 rfl) ?_
        subst hQ_
        exact z_iret C0 hP hS (v := (nI k)) (by refine ⟨?_, rfl⟩; unfold q_chgs; rw [hk, show i = n by omega]) dX1_changes_33
      · skip
        refine lv_aload_n hx hb dX1_changes_12 rfl (lv_at hl 0 rfl) ?_
        refine z_get C0 hP (C := RX1) (T := TX1) (N := 4) (ci := 1) (index := 15) (k := 2) (ref := "WetSuitPedalsShoes$Course") (zk_lt (rfl : zk 2 = 1) (by decide)) (zd_1 E (rfl : zk 2 = 1) _) rfl (zmi inU_1) 1 (by decide) (zm flRX1_15) rfl (v := .ref (E.1 3)) (rfl) dX1_changes_13 ?_
        refine lv_iload_n hx hb dX1_changes_16 rfl (lv_at hl 2 rfl) ?_
        refine z_iald C0 hP (k := 3) (i := i) (v := (r (2 + 3 * i))) (rfl : zk 3 = 11) (Nat.lt_of_lt_of_eq (show i < 10 by omega) (rfl : zl 3 = 10).symm) rfl dX1_changes_17 ((hR.2.2.1 i (by omega)).1) ?_
        refine lv_bipush (v := (6 : Int32)) hx hb dX1_changes_18 (by decide) ?_
        refine lv_icmp_ne (tgt := 26) hx hb dX1_changes_20 (by decide) (fun c_20 => ?_) (fun c_20 => ?_)
        · skip
          refine lv_iinc (v := (nI (i + 1))) (lv' := [(2, .int (nI (i + 1))), (0, .ref (E.1 2)), (1, .int (nI k))]) hx hb dX1_changes_26 hl (k := 2) rfl (z_inc (by decide)) (by decide) rfl (fun ls hl => ?_)
          refine lv_goto (tgt := 4) hx hb dX1_changes_29 (by decide) ?_
          exact ih_4 (i + 1) k _ _ _ (by first | assumption | omega) (by rw [hk]; exact (s_cnt_n (fun q => c_20 (of_decide_eq_true q))).symm) hP hS (lv_sub hl [1, 2, 0] rfl) (by omega)
        · skip
          refine lv_iinc (v := (nI (k + 1))) (lv' := [(1, .int (nI (k + 1))), (0, .ref (E.1 2)), (2, .int (nI i))]) hx hb dX1_changes_23 hl (k := 1) rfl (z_inc (by decide)) (by decide) rfl (fun ls hl => ?_)
          refine lv_iinc (v := (nI (i + 1))) (lv' := [(2, .int (nI (i + 1))), (1, .int (nI (k + 1))), (0, .ref (E.1 2))]) hx hb dX1_changes_26 hl (k := 2) rfl (z_inc (by decide)) (by decide) rfl (fun ls hl => ?_)
          refine lv_goto (tgt := 4) hx hb dX1_changes_29 (by decide) ?_
          exact ih_4 (i + 1) (k + 1) _ _ _ (by first | assumption | omega) (by rw [hk]; exact (s_cnt_y (decide_eq_true c_20)).symm) hP hS (lv_sub hl [2, 1, 0] rfl) (by omega)
  exact cut_4 (_ + 1) 0 0 _ _ _ (by first | assumption | omega) (by rfl) hP hS (lv_sub hl [2, 1, 0] rfl) (Nat.lt_succ_self _)
set_option maxHeartbeats 4000000 in
set_option maxRecDepth 100000 in
theorem c_X1_rides (l : Launch) (E : zE) (G : zG) (r : Nat → Int32) (n na : Nat) (hR : zFA G 1 r n na) (hn10 : n ≤ 10) (hna : na ≤ 5) : zMi l yX1_rides wsX1_rides ({ frames := 1, cells := 0, slots := 0, locals := 20 } : Room) E G [.ref (E.1 2)] (fun r1 G1 => nI (q_rides r n) = r1 ∧ G = G1) := by
  refine zOf (cc := cX1_rides) (nL := 3) (ret := (some .int)) RX1 (by decide) rfl rfl (Nat.le_of_ble_eq_true rfl) ?_
  intro p_ e_ s_ m_ a_ b_ me_ c_ ls C0 hP hS hl
  have hx := C0.1
  have hb := C0.2.1
  have hts := C0.2.2.2.2.1
  have hD : zD E (zA E s_.heap.size) := C0.2.2.2.2.2.2.2.2
  have hA : ∀ q : Nat, s_.heap.size ≤ q → zA E s_.heap.size q := fun q h => Or.inr h
  refine z_gen (fun Q_ hQ_ => ?_)
  have hl : lv_has ls 3 [(0, .ref (E.1 2))] := hl
  refine lv_iconst (v := (0 : Int32)) hx hb dX1_rides_0 (by decide) ?_
  refine lv_istore_n (lv' := [(1, .int (0 : Int32)), (0, .ref (E.1 2))]) hx hb dX1_rides_1 rfl hl (by decide) rfl (fun ls hl => ?_)
  refine lv_iconst (v := (0 : Int32)) hx hb dX1_rides_2 (by decide) ?_
  refine lv_istore_n (lv' := [(2, .int (0 : Int32)), (1, .int (0 : Int32)), (0, .ref (E.1 2))]) hx hb dX1_rides_3 rfl hl (by decide) rfl (fun ls hl => ?_)
  have cut_4 : ∀ (fuel : Nat), ∀ (i k : Nat) (H : Heap) (locs : List Loc) (ls : Array Slot), (i ≤ n) → (k = s_cnt (fun i => decide (s_isRide (r (2 + 3 * i)) = 1)) i) → zP E G H → va_S (zA E s_.heap.size) s_.heap H locs → lv_has ls 3 [(0, .ref (E.1 2)), (1, .int (nI k)), (2, .int (nI i))] → n - i < fuel → W p_ l e_ ({ frames := 1, cells := 0, slots := 0, locals := 20 } : Room) s_ m_ a_ b_ me_ c_ H locs 0 0 Q_ (F0 m_ 4 ls []) := by
    intro fuel
    induction fuel with
    | zero =>
      intro i k  H locs ls hin hk hP hS hl hfu
      exact absurd hfu (Nat.not_lt_zero _)
    | succ fuel ih_4 =>
      intro i k  H locs ls hin hk hP hS hl hfu_4
      refine lv_iload_n hx hb dX1_rides_4 rfl (lv_at hl 2 rfl) ?_
      refine lv_aload_n hx hb dX1_rides_5 rfl (lv_at hl 0 rfl) ?_
      refine z_get C0 hP (C := RX1) (T := TX1) (N := 4) (ci := 1) (index := 9) (k := 2) (ref := "WetSuitPedalsShoes$Course") (zk_lt (rfl : zk 2 = 1) (by decide)) (zd_1 E (rfl : zk 2 = 1) _) rfl (zmi inU_1) 0 (by decide) (zm flRX1_9) rfl (v := .int (nI n)) (congrArg (fun z => some (Value.int z)) (hR.1)) dX1_rides_6 ?_
      refine z_N_ge hx hb (a := i) (b := n) (tgt := 33) dX1_rides_9 rfl rfl (by omega) (by omega) (by decide) (fun c_9 => ?_) (fun c_9 => ?_)
      · skip
        refine lv_iload_n hx hb dX1_rides_33 rfl (lv_at hl 1 rfl) ?_
        subst hQ_
        exact z_iret C0 hP hS (v := (nI k)) (by refine ⟨?_, rfl⟩; unfold q_rides; rw [hk, show i = n by omega]) dX1_rides_34
      · skip
        refine lv_aload_n hx hb dX1_rides_12 rfl (lv_at hl 0 rfl) ?_
        refine z_get C0 hP (C := RX1) (T := TX1) (N := 4) (ci := 1) (index := 15) (k := 2) (ref := "WetSuitPedalsShoes$Course") (zk_lt (rfl : zk 2 = 1) (by decide)) (zd_1 E (rfl : zk 2 = 1) _) rfl (zmi inU_1) 1 (by decide) (zm flRX1_15) rfl (v := .ref (E.1 3)) (rfl) dX1_rides_13 ?_
        refine lv_iload_n hx hb dX1_rides_16 rfl (lv_at hl 2 rfl) ?_
        refine z_iald C0 hP (k := 3) (i := i) (v := (r (2 + 3 * i))) (rfl : zk 3 = 11) (Nat.lt_of_lt_of_eq (show i < 10 by omega) (rfl : zl 3 = 10).symm) rfl dX1_rides_17 ((hR.2.2.1 i (by omega)).1) ?_
        refine z_Si C0 hP hD hA hS (As := [.int (r (2 + 3 * i))]) (rest := []) (c_X4_isRide l E _ (r (2 + 3 * i))) (va_cwS 1 hts (zgS zbw mlRX1_47 stX4_isRide iniRX4 coX4_isRide) rfl rfl rfl (by decide +kernel) ⟨Nat.le_of_ble_eq_true rfl, Nat.le_of_ble_eq_true rfl⟩) rfl hl.1 rfl (Nat.le_of_ble_eq_true rfl) dX1_rides_18 ⟨Nat.zero_le _, Nat.zero_le _⟩ (fun r1 G1 H locs hw1 hP hS => ?_)
        obtain ⟨rfl, rfl⟩ := hw1
        refine lv_if_eq (tgt := 27) hx hb dX1_rides_21 (by decide) (fun c_21 => ?_) (fun c_21 => ?_)
        · skip
          refine lv_iinc (v := (nI (i + 1))) (lv' := [(2, .int (nI (i + 1))), (0, .ref (E.1 2)), (1, .int (nI k))]) hx hb dX1_rides_27 hl (k := 2) rfl (z_inc (by decide)) (by decide) rfl (fun ls hl => ?_)
          refine lv_goto (tgt := 4) hx hb dX1_rides_30 (by decide) ?_
          exact ih_4 (i + 1) k _ _ _ (by first | assumption | omega) (by rw [hk]; exact (s_cnt_n (fun q => (fun z => absurd (z.symm.trans c_21) (by decide)) (of_decide_eq_true q))).symm) hP hS (lv_sub hl [1, 2, 0] rfl) (by omega)
        · skip
          refine lv_iinc (v := (nI (k + 1))) (lv' := [(1, .int (nI (k + 1))), (0, .ref (E.1 2)), (2, .int (nI i))]) hx hb dX1_rides_24 hl (k := 1) rfl (z_inc (by decide)) (by decide) rfl (fun ls hl => ?_)
          refine lv_iinc (v := (nI (i + 1))) (lv' := [(2, .int (nI (i + 1))), (1, .int (nI (k + 1))), (0, .ref (E.1 2))]) hx hb dX1_rides_27 hl (k := 2) rfl (z_inc (by decide)) (by decide) rfl (fun ls hl => ?_)
          refine lv_goto (tgt := 4) hx hb dX1_rides_30 (by decide) ?_
          exact ih_4 (i + 1) (k + 1) _ _ _ (by first | assumption | omega) (by rw [hk]; exact (s_cnt_y (decide_eq_true (s_ride_ne c_21))).symm) hP hS (lv_sub hl [2, 1, 0] rfl) (by omega)
  exact cut_4 (_ + 1) 0 0 _ _ _ (by first | assumption | omega) (by rfl) hP hS (lv_sub hl [2, 1, 0] rfl) (Nat.lt_succ_self _)
theorem flRX3_12 : Cond.fieldLink RX3 12 "WetSuitPedalsShoes$Field" "course" "LWetSuitPedalsShoes$Course;" ∈ zU := zU_m 130 (by decide +kernel) rfl
theorem flRX3_48 : Cond.fieldLink RX3 48 "WetSuitPedalsShoes$Course" "many" "I" ∈ zU := zU_m 86 (by decide +kernel) rfl
theorem flRX3_20 : Cond.fieldLink RX3 20 "WetSuitPedalsShoes$Field" "athletes" "[LWetSuitPedalsShoes$Athlete;" ∈ zU := zU_m 133 (by decide +kernel) rfl
theorem flRX3_37 : Cond.fieldLink RX3 37 "WetSuitPedalsShoes$Athlete" "tries" "[I" ∈ zU := zU_m 123 (by decide +kernel) rfl
set_option maxHeartbeats 4000000 in
set_option maxRecDepth 100000 in
theorem c_X3_allTries (l : Launch) (E : zE) (G : zG) (r : Nat → Int32) (n na : Nat) (hR : zFA G 1 r n na) (hn10 : n ≤ 10) (hna : na ≤ 5) : zMi l yX3_allTries wsX3_allTries ({ frames := 0, cells := 0, slots := 0, locals := 0 } : Room) E G [.ref (E.1 1)] (fun r1 G1 => q_allt r n na = r1 ∧ G = G1) := by
  refine zOf (cc := cX3_allTries) (nL := 4) (ret := (some .int)) RX3 (by decide) rfl rfl (Nat.le_of_ble_eq_true rfl) ?_
  intro p_ e_ s_ m_ a_ b_ me_ c_ ls C0 hP hS hl
  have hx := C0.1
  have hb := C0.2.1
  have hts := C0.2.2.2.2.1
  have hD : zD E (zA E s_.heap.size) := C0.2.2.2.2.2.2.2.2
  have hA : ∀ q : Nat, s_.heap.size ≤ q → zA E s_.heap.size q := fun q h => Or.inr h
  refine z_gen (fun Q_ hQ_ => ?_)
  have hl : lv_has ls 4 [(0, .ref (E.1 1))] := hl
  refine lv_iconst (v := (0 : Int32)) hx hb dX3_allTries_0 (by decide) ?_
  refine lv_istore_n (lv' := [(1, .int (0 : Int32)), (0, .ref (E.1 1))]) hx hb dX3_allTries_1 rfl hl (by decide) rfl (fun ls hl => ?_)
  refine lv_iconst (v := (0 : Int32)) hx hb dX3_allTries_2 (by decide) ?_
  refine lv_istore_n (lv' := [(2, .int (0 : Int32)), (1, .int (0 : Int32)), (0, .ref (E.1 1))]) hx hb dX3_allTries_3 rfl hl (by decide) rfl (fun ls hl => ?_)
  have cut_4 : ∀ (fuel : Nat), ∀ (a : Nat) (sm : Int32) (H : Heap) (locs : List Loc) (ls : Array Slot), (a ≤ na) → (sm = s_tot (fun a i => r (52 + 10 * a + i)) n a) → zP E G H → va_S (zA E s_.heap.size) s_.heap H locs → lv_has ls 4 [(0, .ref (E.1 1)), (1, .int sm), (2, .int (nI a))] → na - a < fuel → W p_ l e_ ({ frames := 0, cells := 0, slots := 0, locals := 0 } : Room) s_ m_ a_ b_ me_ c_ H locs 0 0 Q_ (F0 m_ 4 ls []) := by
    intro fuel
    induction fuel with
    | zero =>
      intro a  sm  H locs ls han hs hP hS hl hfu
      exact absurd hfu (Nat.not_lt_zero _)
    | succ fuel ih_4 =>
      intro a  sm  H locs ls han hs hP hS hl hfu_4
      refine lv_iload_n hx hb dX3_allTries_4 rfl (lv_at hl 2 rfl) ?_
      refine lv_aload_n hx hb dX3_allTries_5 rfl (lv_at hl 0 rfl) ?_
      refine z_get C0 hP (C := RX3) (T := TX3) (N := 3) (ci := 3) (index := 24) (k := 1) (ref := "WetSuitPedalsShoes$Field") (zk_lt (rfl : zk 1 = 3) (by decide)) (zd_3 E (rfl : zk 1 = 3) _) rfl (zmi inU_3) 2 (by decide) (zm flRX3_24) rfl (v := .int (nI na)) (congrArg (fun z => some (Value.int z)) (hR.2.1)) dX3_allTries_6 ?_
      refine z_N_ge hx hb (a := a) (b := na) (tgt := 51) dX3_allTries_9 rfl rfl (by omega) (by omega) (by decide) (fun c_9 => ?_) (fun c_9 => ?_)
      · skip
        refine lv_iload_n hx hb dX3_allTries_51 rfl (lv_at hl 1 rfl) ?_
        subst hQ_
        exact z_iret C0 hP hS (v := sm) (by refine ⟨?_, rfl⟩; unfold q_allt; rw [hs, show a = na by omega]) dX3_allTries_52
      · skip
        refine lv_iconst (v := (0 : Int32)) hx hb dX3_allTries_12 (by decide) ?_
        refine lv_istore_n (lv' := [(3, .int (0 : Int32)), (0, .ref (E.1 1)), (1, .int sm), (2, .int (nI a))]) hx hb dX3_allTries_13 rfl hl (by decide) rfl (fun ls hl => ?_)
        have cut_14 : ∀ (fuel : Nat), ∀ (i : Nat) (sm : Int32) (H : Heap) (locs : List Loc) (ls : Array Slot), (i ≤ n) → (sm = s_acc (fun i => r (52 + 10 * a + i)) (s_tot (fun a i => r (52 + 10 * a + i)) n a) i) → zP E G H → va_S (zA E s_.heap.size) s_.heap H locs → lv_has ls 4 [(0, .ref (E.1 1)), (1, .int sm), (2, .int (nI a)), (3, .int (nI i))] → n - i < fuel → W p_ l e_ ({ frames := 0, cells := 0, slots := 0, locals := 0 } : Room) s_ m_ a_ b_ me_ c_ H locs 0 0 Q_ (F0 m_ 14 ls []) := by
          intro fuel
          induction fuel with
          | zero =>
            intro i  sm  H locs ls hin hs2 hP hS hl hfu
            exact absurd hfu (Nat.not_lt_zero _)
          | succ fuel ih_14 =>
            intro i  sm  H locs ls hin hs2 hP hS hl hfu_14
            refine lv_iload_n hx hb dX3_allTries_14 rfl (lv_at hl 3 rfl) ?_
            refine lv_aload_n hx hb dX3_allTries_15 rfl (lv_at hl 0 rfl) ?_
            refine z_get C0 hP (C := RX3) (T := TX3) (N := 3) (ci := 3) (index := 12) (k := 1) (ref := "WetSuitPedalsShoes$Field") (zk_lt (rfl : zk 1 = 3) (by decide)) (zd_3 E (rfl : zk 1 = 3) _) rfl (zmi inU_3) 0 (by decide) (zm flRX3_12) rfl (v := .ref (E.1 2)) (rfl) dX3_allTries_16 ?_
            refine z_get C0 hP (C := RX1) (T := TX1) (N := 4) (ci := 1) (index := 48) (k := 2) (ref := "WetSuitPedalsShoes$Course") (zk_lt (rfl : zk 2 = 1) (by decide)) (zd_1 E (rfl : zk 2 = 1) _) rfl (zmi inU_1) 0 (by decide) (zm flRX3_48) rfl (v := .int (nI n)) (congrArg (fun z => some (Value.int z)) (hR.1)) dX3_allTries_19 ?_
            refine z_N_ge hx hb (a := i) (b := n) (tgt := 45) dX3_allTries_22 rfl rfl (by omega) (by omega) (by decide) (fun c_22 => ?_) (fun c_22 => ?_)
            · skip
              refine lv_iinc (v := (nI (a + 1))) (lv' := [(2, .int (nI (a + 1))), (0, .ref (E.1 1)), (1, .int sm), (3, .int (nI i))]) hx hb dX3_allTries_45 hl (k := 2) rfl (z_inc (by decide)) (by decide) rfl (fun ls hl => ?_)
              refine lv_goto (tgt := 4) hx hb dX3_allTries_48 (by decide) ?_
              exact ih_4 (a + 1) sm _ _ _ (by first | assumption | omega) (by rw [hs2, show i = n by omega]; rfl) hP hS (lv_sub hl [1, 2, 0] rfl) (by omega)
            · skip
              refine lv_iload_n hx hb dX3_allTries_25 rfl (lv_at hl 1 rfl) ?_
              refine lv_aload_n hx hb dX3_allTries_26 rfl (lv_at hl 0 rfl) ?_
              refine z_get C0 hP (C := RX3) (T := TX3) (N := 3) (ci := 3) (index := 20) (k := 1) (ref := "WetSuitPedalsShoes$Field") (zk_lt (rfl : zk 1 = 3) (by decide)) (zd_3 E (rfl : zk 1 = 3) _) rfl (zmi inU_3) 1 (by decide) (zm flRX3_20) rfl (v := .ref (E.1 6)) (rfl) dX3_allTries_27 ?_
              refine lv_iload_n hx hb dX3_allTries_30 rfl (lv_at hl 2 rfl) ?_
              refine z_aald C0 hP (k := 6) (i := a) (rfl : zk 6 = 12) (by omega) rfl dX3_allTries_31 (fun at_1 hat_1 => ?_)
              have kat_1 : zIs at_1 tAth := hat_1 ▸ zIs_ath z_lit_Fie_1 (by omega)
              refine z_get C0 hP (C := RX0) (T := TX0) (N := 2) (ci := 0) (index := 37) (k := at_1) (ref := "WetSuitPedalsShoes$Athlete") (zk_lt (kat_1 (0, 0, 2) (by decide)).1 (by decide)) (zd_0 E (kat_1 (0, 0, 2) (by decide)).1 _) rfl (zmi inU_0) 1 (by decide) (zm flRX3_37) rfl (v := .ref (E.1 (at_1 + 2))) (rfl) dX3_allTries_32 ?_
              refine lv_iload_n hx hb dX3_allTries_35 rfl (lv_at hl 3 rfl) ?_
              refine z_iald C0 hP (k := (at_1 + 2)) (i := i) (v := (r (52 + 10 * a + i))) (kat_1 (2, 11, 10) (by decide)).1 (Nat.lt_of_lt_of_eq (show i < 10 by omega) (kat_1 (2, 11, 10) (by decide)).2.symm) rfl dX3_allTries_36 (z_tr hR hat_1 (by omega) (by omega)) ?_
              refine lv_iadd hx hb dX3_allTries_37 ?_
              refine lv_istore_n (lv' := [(1, .int (sm + (r (52 + 10 * a + i)))), (0, .ref (E.1 1)), (2, .int (nI a)), (3, .int (nI i))]) hx hb dX3_allTries_38 rfl hl (by decide) rfl (fun ls hl => ?_)
              refine lv_iinc (v := (nI (i + 1))) (lv' := [(3, .int (nI (i + 1))), (1, .int (sm + (r (52 + 10 * a + i)))), (0, .ref (E.1 1)), (2, .int (nI a))]) hx hb dX3_allTries_39 hl (k := 3) rfl (z_inc (by decide)) (by decide) rfl (fun ls hl => ?_)
              refine lv_goto (tgt := 14) hx hb dX3_allTries_42 (by decide) ?_
              exact ih_14 (i + 1) (sm + (r (52 + 10 * a + i))) _ _ _ (by first | assumption | omega) (by rw [hs2]; rfl) hP hS (lv_sub hl [2, 1, 3, 0] rfl) (by omega)
        exact cut_14 (_ + 1) 0 sm _ _ _ (by first | assumption | omega) (by exact hs) hP hS (lv_sub hl [1, 2, 3, 0] rfl) (Nat.lt_succ_self _)
  exact cut_4 (_ + 1) 0 (0 : Int32) _ _ _ (by first | assumption | omega) (by rfl) hP hS (lv_sub hl [2, 1, 0] rfl) (Nat.lt_succ_self _)
theorem mlRX11_281 : Cond.methodLink RX11 281 yX1_lengths ∈ zU := zU_m 790 (by decide +kernel) rfl
theorem coX1_lengths : Cond.code yX1_lengths cX1_lengths 3 (some .int) ∈ zU := zU_m 793 (by decide +kernel) rfl
theorem imX1_lengths : Cond.instanceMethod yX1_lengths ∈ zU := zU_m 791 (by decide +kernel) rfl
theorem seX1_lengths : Cond.selects RX1 yX1_lengths yX1_lengths ∈ zU := zU_m 792 (by decide +kernel) rfl
theorem mlRX11_284 : Cond.methodLink RX11 284 yX1_changes ∈ zU := zU_m 794 (by decide +kernel) rfl
theorem coX1_changes : Cond.code yX1_changes cX1_changes 3 (some .int) ∈ zU := zU_m 797 (by decide +kernel) rfl
theorem imX1_changes : Cond.instanceMethod yX1_changes ∈ zU := zU_m 795 (by decide +kernel) rfl
theorem seX1_changes : Cond.selects RX1 yX1_changes yX1_changes ∈ zU := zU_m 796 (by decide +kernel) rfl
theorem mlRX11_224 : Cond.methodLink RX11 224 yX1_rides ∈ zU := zU_m 666 (by decide +kernel) rfl
theorem coX1_rides : Cond.code yX1_rides cX1_rides 3 (some .int) ∈ zU := zU_m 669 (by decide +kernel) rfl
theorem imX1_rides : Cond.instanceMethod yX1_rides ∈ zU := zU_m 667 (by decide +kernel) rfl
theorem seX1_rides : Cond.selects RX1 yX1_rides yX1_rides ∈ zU := zU_m 668 (by decide +kernel) rfl
theorem mlRX11_287 : Cond.methodLink RX11 287 yX3_allTries ∈ zU := zU_m 798 (by decide +kernel) rfl
theorem coX3_allTries : Cond.code yX3_allTries cX3_allTries 4 (some .int) ∈ zU := zU_m 801 (by decide +kernel) rfl
theorem imX3_allTries : Cond.instanceMethod yX3_allTries ∈ zU := zU_m 799 (by decide +kernel) rfl
theorem seX3_allTries : Cond.selects RX3 yX3_allTries yX3_allTries ∈ zU := zU_m 800 (by decide +kernel) rfl
theorem flRX11_254 : Cond.fieldLink RX11 254 "WetSuitPedalsShoes$Row" "many" "I" ∈ zU := zU_m 166 (by decide +kernel) rfl
theorem flRX11_26 : Cond.fieldLink RX11 26 "WetSuitPedalsShoes" "text" "LWetSuitPedalsShoes$Text;" ∈ zU := zU_m 275 (by decide +kernel) rfl
theorem flRX11_290 : Cond.fieldLink RX11 290 "WetSuitPedalsShoes$Text" "many" "I" ∈ zU := zU_m 152 (by decide +kernel) rfl
set_option maxHeartbeats 4000000 in
set_option maxRecDepth 100000 in
theorem c_X11_count (l : Launch) (E : zE) (G : zG) (r : Nat → Int32) (n na : Nat) (what : Int32) (hR : zFA G 1 r n na) (hn10 : n ≤ 10) (hna : na ≤ 5) (hp : zPl G) : zMi l yX11_count wsX11_count ({ frames := 2, cells := 0, slots := 0, locals := 42 } : Room) E G [.ref (E.1 0), .int what] (fun r1 G1 => zQc (A_count r n na (G 47) (G 45 0) (G 43 0) what) G r1 G1) := by
  refine zOf (cc := cX11_count) (nL := 2) (ret := (some .int)) RX11 (by decide) rfl rfl (Nat.le_of_ble_eq_true rfl) ?_
  intro p_ e_ s_ m_ a_ b_ me_ c_ ls C0 hP hS hl
  have hx := C0.1
  have hb := C0.2.1
  have hts := C0.2.2.2.2.1
  have hD : zD E (zA E s_.heap.size) := C0.2.2.2.2.2.2.2.2
  have hA : ∀ q : Nat, s_.heap.size ≤ q → zA E s_.heap.size q := fun q h => Or.inr h
  refine z_gen (fun Q_ hQ_ => ?_)
  have hl : lv_has ls 2 [(0, .ref (E.1 0)), (1, .int what)] := hl
  refine lv_iload_n hx hb dX11_count_0 rfl (lv_at hl 1 rfl) ?_
  rcases z_sw (what) 0 8 with hsw | ⟨k_, hk_, hsw⟩
  · skip
    refine lv_tableOut (tgt := 124) hx hb dX11_count_1 (z_swo hsw rfl rfl) (by decide) ?_
    have hsn_1_0 : ¬ what = (0 : Int32) := fun q => by rw [q] at hsw; revert hsw; decide
    have hsn_1_1 : ¬ what = (1 : Int32) := fun q => by rw [q] at hsw; revert hsw; decide
    have hsn_1_2 : ¬ what = (2 : Int32) := fun q => by rw [q] at hsw; revert hsw; decide
    have hsn_1_3 : ¬ what = (3 : Int32) := fun q => by rw [q] at hsw; revert hsw; decide
    have hsn_1_4 : ¬ what = (4 : Int32) := fun q => by rw [q] at hsw; revert hsw; decide
    have hsn_1_5 : ¬ what = (5 : Int32) := fun q => by rw [q] at hsw; revert hsw; decide
    have hsn_1_6 : ¬ what = (6 : Int32) := fun q => by rw [q] at hsw; revert hsw; decide
    have hsn_1_7 : ¬ what = (7 : Int32) := fun q => by rw [q] at hsw; revert hsw; decide
    refine lv_iload_n hx hb dX11_count_124 rfl (lv_at hl 1 rfl) ?_
    refine lv_bipush (v := (11 : Int32)) hx hb dX11_count_125 (by decide) ?_
    refine lv_icmp_lt (tgt := 148) hx hb dX11_count_127 (by decide) (fun c_127 => ?_) (fun c_127 => ?_)
    · skip
      have e9 := z_rfi_lo c_127
      refine lv_bipush (v := (-9 : Int32)) hx hb dX11_count_148 (by decide) ?_
      subst hQ_
      exact z_iret C0 hP hS (v := (-9 : Int32)) (by exact zQc_of (k := 0) (by simp [A_count, hsn_1_0, hsn_1_1, hsn_1_2, hsn_1_3, hsn_1_4, hsn_1_5, hsn_1_6, hsn_1_7, c_127, e9]) (fun k hk => rfl) (rfl) (hp)) dX11_count_150
    · skip
      refine lv_iload_n hx hb dX11_count_130 rfl (lv_at hl 1 rfl) ?_
      refine lv_bipush (v := (16 : Int32)) hx hb dX11_count_131 (by decide) ?_
      refine lv_icmp_gt (tgt := 148) hx hb dX11_count_133 (by decide) (fun c_133 => ?_) (fun c_133 => ?_)
      · skip
        have e9 := z_rfi_hi c_133
        refine lv_bipush (v := (-9 : Int32)) hx hb dX11_count_148 (by decide) ?_
        subst hQ_
        exact z_iret C0 hP hS (v := (-9 : Int32)) (by exact zQc_of (k := 0) (by simp [A_count, hsn_1_0, hsn_1_1, hsn_1_2, hsn_1_3, hsn_1_4, hsn_1_5, hsn_1_6, hsn_1_7, c_127, c_133, e9]) (fun k hk => rfl) (rfl) (hp)) dX11_count_150
      · skip
        obtain ⟨wh, hwh, rfl⟩ := z_1116 (Int32.not_lt.mp c_127) (Int32.not_lt.mp c_133)
        have hy_wh : zix (nI wh) = wh := zix_n (by omega)
        refine lv_aload_n hx hb dX11_count_136 rfl (lv_at hl 0 rfl) ?_
        refine z_get C0 hP (C := RX11) (T := TX11) (N := 11) (ci := 9) (index := 37) (k := 0) (ref := "WetSuitPedalsShoes") (zk_lt (rfl : zk 0 = 9) (by decide)) (zd_9 E (rfl : zk 0 = 9) _) rfl (zmi inU_11) 5 (by decide) (zm flRX11_37) rfl (v := .ref (E.1 47)) (rfl) dX11_count_137 ?_
        refine lv_iload_n hx hb dX11_count_140 rfl (lv_at hl 1 rfl) ?_
        refine lv_bipush (v := (10 : Int32)) hx hb dX11_count_141 (by decide) ?_
        refine z_isub hx hb (a := wh) (b := 10) (n := wh - 10) dX11_count_143 rfl rfl (by omega) (by omega) ?_
        refine z_iald C0 hP (k := 47) (i := wh - 10) (v := (G 47 (wh - 10))) (rfl : zk 47 = 11) (Nat.lt_of_lt_of_eq (show wh - 10 < 7 by omega) (rfl : zl 47 = 7).symm) rfl dX11_count_144 (rfl) ?_
        refine lv_goto (tgt := 150) hx hb dX11_count_145 (by decide) ?_
        subst hQ_
        exact z_iret C0 hP hS (v := (G 47 (wh - 10))) (by exact zQc_of (k := 0) (A_count_r hwh.1 hwh.2) (fun k hk => rfl) (rfl) (hp)) dX11_count_150
  · skip
    rcases (show k_ = 0 ∨ k_ = 1 ∨ k_ = 2 ∨ k_ = 3 ∨ k_ = 4 ∨ k_ = 5 ∨ k_ = 6 ∨ k_ = 7 by omega) with rfl | rfl | rfl | rfl | rfl | rfl | rfl | rfl
    · skip
      have hsw_1 : what = (0 : Int32) := z_swi hsw (by decide)
      refine lv_tableIn (tgt := 48) (off := 47) hx hb dX11_count_1 (by rw [hsw_1]; decide) (by rw [hsw_1]; decide) (by rw [hsw_1]; rfl) (by decide) ?_
      refine lv_aload_n hx hb dX11_count_48 rfl (lv_at hl 0 rfl) ?_
      refine z_get C0 hP (C := RX11) (T := TX11) (N := 11) (ci := 9) (index := 10) (k := 0) (ref := "WetSuitPedalsShoes") (zk_lt (rfl : zk 0 = 9) (by decide)) (zd_9 E (rfl : zk 0 = 9) _) rfl (zmi inU_11) 0 (by decide) (zm flRX11_10) rfl (v := .ref (E.1 1)) (rfl) dX11_count_49 ?_
      refine z_get C0 hP (C := RX3) (T := TX3) (N := 3) (ci := 3) (index := 93) (k := 1) (ref := "WetSuitPedalsShoes$Field") (zk_lt (rfl : zk 1 = 3) (by decide)) (zd_3 E (rfl : zk 1 = 3) _) rfl (zmi inU_3) 0 (by decide) (zm flRX11_93) rfl (v := .ref (E.1 2)) (rfl) dX11_count_52 ?_
      refine z_get C0 hP (C := RX1) (T := TX1) (N := 4) (ci := 1) (index := 138) (k := 2) (ref := "WetSuitPedalsShoes$Course") (zk_lt (rfl : zk 2 = 1) (by decide)) (zd_1 E (rfl : zk 2 = 1) _) rfl (zmi inU_1) 0 (by decide) (zm flRX11_138) rfl (v := .int (nI n)) (congrArg (fun z => some (Value.int z)) (hR.1)) dX11_count_55 ?_
      subst hQ_
      exact z_iret C0 hP hS (v := (nI n)) (by exact zQc_of (k := 0) (by simp [A_count, hsw_1]) (fun k hk => rfl) (rfl) (hp)) dX11_count_58
    · skip
      have hsw_1 : what = (1 : Int32) := z_swi hsw (by decide)
      refine lv_tableIn (tgt := 59) (off := 58) hx hb dX11_count_1 (by rw [hsw_1]; decide) (by rw [hsw_1]; decide) (by rw [hsw_1]; rfl) (by decide) ?_
      refine lv_aload_n hx hb dX11_count_59 rfl (lv_at hl 0 rfl) ?_
      refine z_get C0 hP (C := RX11) (T := TX11) (N := 11) (ci := 9) (index := 10) (k := 0) (ref := "WetSuitPedalsShoes") (zk_lt (rfl : zk 0 = 9) (by decide)) (zd_9 E (rfl : zk 0 = 9) _) rfl (zmi inU_11) 0 (by decide) (zm flRX11_10) rfl (v := .ref (E.1 1)) (rfl) dX11_count_60 ?_
      refine z_get C0 hP (C := RX3) (T := TX3) (N := 3) (ci := 3) (index := 241) (k := 1) (ref := "WetSuitPedalsShoes$Field") (zk_lt (rfl : zk 1 = 3) (by decide)) (zd_3 E (rfl : zk 1 = 3) _) rfl (zmi inU_3) 2 (by decide) (zm flRX11_241) rfl (v := .int (nI na)) (congrArg (fun z => some (Value.int z)) (hR.2.1)) dX11_count_63 ?_
      subst hQ_
      exact z_iret C0 hP hS (v := (nI na)) (by exact zQc_of (k := 0) (by simp [A_count, hsw_1]) (fun k hk => rfl) (rfl) (hp)) dX11_count_66
    · skip
      have hsw_1 : what = (2 : Int32) := z_swi hsw (by decide)
      refine lv_tableIn (tgt := 67) (off := 66) hx hb dX11_count_1 (by rw [hsw_1]; decide) (by rw [hsw_1]; decide) (by rw [hsw_1]; rfl) (by decide) ?_
      refine lv_aload_n hx hb dX11_count_67 rfl (lv_at hl 0 rfl) ?_
      refine z_get C0 hP (C := RX11) (T := TX11) (N := 11) (ci := 9) (index := 10) (k := 0) (ref := "WetSuitPedalsShoes") (zk_lt (rfl : zk 0 = 9) (by decide)) (zd_9 E (rfl : zk 0 = 9) _) rfl (zmi inU_11) 0 (by decide) (zm flRX11_10) rfl (v := .ref (E.1 1)) (rfl) dX11_count_68 ?_
      refine z_get C0 hP (C := RX3) (T := TX3) (N := 3) (ci := 3) (index := 93) (k := 1) (ref := "WetSuitPedalsShoes$Field") (zk_lt (rfl : zk 1 = 3) (by decide)) (zd_3 E (rfl : zk 1 = 3) _) rfl (zmi inU_3) 0 (by decide) (zm flRX11_93) rfl (v := .ref (E.1 2)) (rfl) dX11_count_71 ?_
      refine z_Vi C0 hP hD hA hS (As := []) (rest := []) (k := 2) (c_X1_lengths l E _ r n na hR hn10 hna) (cwV 0 hts (zgV zbw mlRX11_281 imX1_lengths seX1_lengths iniRX1 coX1_lengths) rfl rfl rfl (by decide +kernel) ⟨Nat.le_of_ble_eq_true rfl, Nat.le_of_ble_eq_true rfl⟩) (zk_lt (rfl : zk 2 = 1) (by decide)) (zd_1 E (rfl : zk 2 = 1) _) rfl rfl rfl hl.1 rfl (Nat.le_of_ble_eq_true rfl) dX11_count_74 ⟨Nat.zero_le _, Nat.zero_le _⟩ (fun r1 G1 H locs hw1 hP hS => ?_)
      obtain ⟨hr1, rfl⟩ := hw1
      subst hr1
      subst hQ_
      exact z_iret C0 hP hS (v := (q_len r n)) (by exact zQc_of (k := 0) (by simp [A_count, hsw_1]) (fun k hk => rfl) (rfl) (hp)) dX11_count_77
    · skip
      have hsw_1 : what = (3 : Int32) := z_swi hsw (by decide)
      refine lv_tableIn (tgt := 78) (off := 77) hx hb dX11_count_1 (by rw [hsw_1]; decide) (by rw [hsw_1]; decide) (by rw [hsw_1]; rfl) (by decide) ?_
      refine lv_aload_n hx hb dX11_count_78 rfl (lv_at hl 0 rfl) ?_
      refine z_get C0 hP (C := RX11) (T := TX11) (N := 11) (ci := 9) (index := 10) (k := 0) (ref := "WetSuitPedalsShoes") (zk_lt (rfl : zk 0 = 9) (by decide)) (zd_9 E (rfl : zk 0 = 9) _) rfl (zmi inU_11) 0 (by decide) (zm flRX11_10) rfl (v := .ref (E.1 1)) (rfl) dX11_count_79 ?_
      refine z_get C0 hP (C := RX3) (T := TX3) (N := 3) (ci := 3) (index := 93) (k := 1) (ref := "WetSuitPedalsShoes$Field") (zk_lt (rfl : zk 1 = 3) (by decide)) (zd_3 E (rfl : zk 1 = 3) _) rfl (zmi inU_3) 0 (by decide) (zm flRX11_93) rfl (v := .ref (E.1 2)) (rfl) dX11_count_82 ?_
      refine z_Vi C0 hP hD hA hS (As := []) (rest := []) (k := 2) (c_X1_changes l E _ r n na hR hn10 hna) (cwV 0 hts (zgV zbw mlRX11_284 imX1_changes seX1_changes iniRX1 coX1_changes) rfl rfl rfl (by decide +kernel) ⟨Nat.le_of_ble_eq_true rfl, Nat.le_of_ble_eq_true rfl⟩) (zk_lt (rfl : zk 2 = 1) (by decide)) (zd_1 E (rfl : zk 2 = 1) _) rfl rfl rfl hl.1 rfl (Nat.le_of_ble_eq_true rfl) dX11_count_85 ⟨Nat.zero_le _, Nat.zero_le _⟩ (fun r2 G2 H locs hw2 hP hS => ?_)
      obtain ⟨hr2, rfl⟩ := hw2
      subst hr2
      subst hQ_
      exact z_iret C0 hP hS (v := (nI (q_chgs r n))) (by exact zQc_of (k := 0) (by simp [A_count, hsw_1]) (fun k hk => rfl) (rfl) (hp)) dX11_count_88
    · skip
      have hsw_1 : what = (4 : Int32) := z_swi hsw (by decide)
      refine lv_tableIn (tgt := 89) (off := 88) hx hb dX11_count_1 (by rw [hsw_1]; decide) (by rw [hsw_1]; decide) (by rw [hsw_1]; rfl) (by decide) ?_
      refine lv_aload_n hx hb dX11_count_89 rfl (lv_at hl 0 rfl) ?_
      refine z_get C0 hP (C := RX11) (T := TX11) (N := 11) (ci := 9) (index := 10) (k := 0) (ref := "WetSuitPedalsShoes") (zk_lt (rfl : zk 0 = 9) (by decide)) (zd_9 E (rfl : zk 0 = 9) _) rfl (zmi inU_11) 0 (by decide) (zm flRX11_10) rfl (v := .ref (E.1 1)) (rfl) dX11_count_90 ?_
      refine z_get C0 hP (C := RX3) (T := TX3) (N := 3) (ci := 3) (index := 93) (k := 1) (ref := "WetSuitPedalsShoes$Field") (zk_lt (rfl : zk 1 = 3) (by decide)) (zd_3 E (rfl : zk 1 = 3) _) rfl (zmi inU_3) 0 (by decide) (zm flRX11_93) rfl (v := .ref (E.1 2)) (rfl) dX11_count_93 ?_
      refine z_Vi C0 hP hD hA hS (As := []) (rest := []) (k := 2) (c_X1_rides l E _ r n na hR hn10 hna) (cwV 0 hts (zgV zbw mlRX11_224 imX1_rides seX1_rides iniRX1 coX1_rides) rfl rfl rfl (by decide +kernel) ⟨Nat.le_of_ble_eq_true rfl, Nat.le_of_ble_eq_true rfl⟩) (zk_lt (rfl : zk 2 = 1) (by decide)) (zd_1 E (rfl : zk 2 = 1) _) rfl rfl rfl hl.1 rfl (Nat.le_of_ble_eq_true rfl) dX11_count_96 ⟨Nat.zero_le _, Nat.zero_le _⟩ (fun r3 G3 H locs hw3 hP hS => ?_)
      obtain ⟨hr3, rfl⟩ := hw3
      subst hr3
      subst hQ_
      exact z_iret C0 hP hS (v := (nI (q_rides r n))) (by exact zQc_of (k := 0) (by simp [A_count, hsw_1]) (fun k hk => rfl) (rfl) (hp)) dX11_count_99
    · skip
      have hsw_1 : what = (5 : Int32) := z_swi hsw (by decide)
      refine lv_tableIn (tgt := 100) (off := 99) hx hb dX11_count_1 (by rw [hsw_1]; decide) (by rw [hsw_1]; decide) (by rw [hsw_1]; rfl) (by decide) ?_
      refine lv_aload_n hx hb dX11_count_100 rfl (lv_at hl 0 rfl) ?_
      refine z_get C0 hP (C := RX11) (T := TX11) (N := 11) (ci := 9) (index := 10) (k := 0) (ref := "WetSuitPedalsShoes") (zk_lt (rfl : zk 0 = 9) (by decide)) (zd_9 E (rfl : zk 0 = 9) _) rfl (zmi inU_11) 0 (by decide) (zm flRX11_10) rfl (v := .ref (E.1 1)) (rfl) dX11_count_101 ?_
      refine z_Vi C0 hP hD hA hS (As := []) (rest := []) (k := 1) (c_X3_allTries l E _ r n na hR hn10 hna) (cwV 0 hts (zgV zbw mlRX11_287 imX3_allTries seX3_allTries iniRX3 coX3_allTries) rfl rfl rfl (by decide +kernel) ⟨Nat.le_of_ble_eq_true rfl, Nat.le_of_ble_eq_true rfl⟩) (zk_lt (rfl : zk 1 = 3) (by decide)) (zd_3 E (rfl : zk 1 = 3) _) rfl rfl rfl hl.1 rfl (Nat.le_of_ble_eq_true rfl) dX11_count_104 ⟨Nat.zero_le _, Nat.zero_le _⟩ (fun r4 G4 H locs hw4 hP hS => ?_)
      obtain ⟨hr4, rfl⟩ := hw4
      subst hr4
      subst hQ_
      exact z_iret C0 hP hS (v := (q_allt r n na)) (by exact zQc_of (k := 0) (by simp [A_count, hsw_1]) (fun k hk => rfl) (rfl) (hp)) dX11_count_107
    · skip
      have hsw_1 : what = (6 : Int32) := z_swi hsw (by decide)
      refine lv_tableIn (tgt := 108) (off := 107) hx hb dX11_count_1 (by rw [hsw_1]; decide) (by rw [hsw_1]; decide) (by rw [hsw_1]; rfl) (by decide) ?_
      refine lv_aload_n hx hb dX11_count_108 rfl (lv_at hl 0 rfl) ?_
      refine z_get C0 hP (C := RX11) (T := TX11) (N := 11) (ci := 9) (index := 33) (k := 0) (ref := "WetSuitPedalsShoes") (zk_lt (rfl : zk 0 = 9) (by decide)) (zd_9 E (rfl : zk 0 = 9) _) rfl (zmi inU_11) 4 (by decide) (zm flRX11_33) rfl (v := .ref (E.1 45)) (rfl) dX11_count_109 ?_
      refine z_get C0 hP (C := RX8) (T := TX8) (N := 2) (ci := 6) (index := 254) (k := 45) (ref := "WetSuitPedalsShoes$Row") (zk_lt (rfl : zk 45 = 6) (by decide)) (zd_6 E (rfl : zk 45 = 6) _) rfl (zmi inU_8) 0 (by decide) (zm flRX11_254) rfl (v := .int (G 45 0)) (rfl) dX11_count_112 ?_
      subst hQ_
      exact z_iret C0 hP hS (v := (G 45 0)) (by exact zQc_of (k := 0) (by simp [A_count, hsw_1]) (fun k hk => rfl) (rfl) (hp)) dX11_count_115
    · skip
      have hsw_1 : what = (7 : Int32) := z_swi hsw (by decide)
      refine lv_tableIn (tgt := 116) (off := 115) hx hb dX11_count_1 (by rw [hsw_1]; decide) (by rw [hsw_1]; decide) (by rw [hsw_1]; rfl) (by decide) ?_
      refine lv_aload_n hx hb dX11_count_116 rfl (lv_at hl 0 rfl) ?_
      refine z_get C0 hP (C := RX11) (T := TX11) (N := 11) (ci := 9) (index := 26) (k := 0) (ref := "WetSuitPedalsShoes") (zk_lt (rfl : zk 0 = 9) (by decide)) (zd_9 E (rfl : zk 0 = 9) _) rfl (zmi inU_11) 3 (by decide) (zm flRX11_26) rfl (v := .ref (E.1 43)) (rfl) dX11_count_117 ?_
      refine z_get C0 hP (C := RX9) (T := TX9) (N := 2) (ci := 7) (index := 290) (k := 43) (ref := "WetSuitPedalsShoes$Text") (zk_lt (rfl : zk 43 = 7) (by decide)) (zd_7 E (rfl : zk 43 = 7) _) rfl (zmi inU_9) 0 (by decide) (zm flRX11_290) rfl (v := .int (G 43 0)) (rfl) dX11_count_120 ?_
      subst hQ_
      exact z_iret C0 hP hS (v := (G 43 0)) (by exact zQc_of (k := 0) (by simp [A_count, hsw_1]) (fun k hk => rfl) (rfl) (hp)) dX11_count_123
set_option maxHeartbeats 4000000 in
set_option maxRecDepth 100000 in
theorem c_X12_ridesMany (l : Launch) (E : zE) (G : zG) (r : Nat → Int32) (n na : Nat) (hM : G 93 = r) (hrn : r 0 = nI n) (hrna : r 1 = nI na) (hn10 : n ≤ 10) (hna : na ≤ 5) : zMi l yX12_ridesMany wsX12_ridesMany ({ frames := 2, cells := 0, slots := 0, locals := 43 } : Room) E G [.ref (E.1 92)] (fun r1 G1 => nI (q_rides r n) = r1 ∧ G = G1) := by
  refine zOf (cc := cX12_ridesMany) (nL := 3) (ret := (some .int)) RX12 (by decide) rfl rfl (Nat.le_of_ble_eq_true rfl) ?_
  intro p_ e_ s_ m_ a_ b_ me_ c_ ls C0 hP hS hl
  have hx := C0.1
  have hb := C0.2.1
  have hts := C0.2.2.2.2.1
  have hD : zD E (zA E s_.heap.size) := C0.2.2.2.2.2.2.2.2
  have hA : ∀ q : Nat, s_.heap.size ≤ q → zA E s_.heap.size q := fun q h => Or.inr h
  refine z_gen (fun Q_ hQ_ => ?_)
  have hl : lv_has ls 3 [(0, .ref (E.1 92))] := hl
  refine lv_iconst (v := (0 : Int32)) hx hb dX12_ridesMany_0 (by decide) ?_
  refine lv_istore_n (lv' := [(1, .int (0 : Int32)), (0, .ref (E.1 92))]) hx hb dX12_ridesMany_1 rfl hl (by decide) rfl (fun ls hl => ?_)
  refine lv_iconst (v := (0 : Int32)) hx hb dX12_ridesMany_2 (by decide) ?_
  refine lv_istore_n (lv' := [(2, .int (0 : Int32)), (1, .int (0 : Int32)), (0, .ref (E.1 92))]) hx hb dX12_ridesMany_3 rfl hl (by decide) rfl (fun ls hl => ?_)
  have cut_4 : ∀ (fuel : Nat), ∀ (i k : Nat) (H : Heap) (locs : List Loc) (ls : Array Slot), (i ≤ n) → (k = s_cnt (fun i => decide (s_isRide (r (2 + 3 * i)) = 1)) i) → zP E G H → va_S (zA E s_.heap.size) s_.heap H locs → lv_has ls 3 [(0, .ref (E.1 92)), (1, .int (nI k)), (2, .int (nI i))] → n - i < fuel → W p_ l e_ ({ frames := 2, cells := 0, slots := 0, locals := 43 } : Room) s_ m_ a_ b_ me_ c_ H locs 0 0 Q_ (F0 m_ 4 ls []) := by
    intro fuel
    induction fuel with
    | zero =>
      intro i k  H locs ls hin hk hP hS hl hfu
      exact absurd hfu (Nat.not_lt_zero _)
    | succ fuel ih_4 =>
      intro i k  H locs ls hin hk hP hS hl hfu_4
      refine lv_iload_n hx hb dX12_ridesMany_4 rfl (lv_at hl 2 rfl) ?_
      refine lv_aload_n hx hb dX12_ridesMany_5 rfl (lv_at hl 0 rfl) ?_
      refine z_get C0 hP (C := RX12) (T := TX12) (N := 21) (ci := 10) (index := 9) (k := 92) (ref := "WetSuitPedalsShoesModel") (zk_lt (rfl : zk 92 = 10) (by decide)) (zd_10 E (rfl : zk 92 = 10) _) rfl (zmi inU_12) 0 (by decide) (zm flRX12_9) rfl (v := .ref (E.1 93)) (rfl) dX12_ridesMany_6 ?_
      refine lv_iconst (v := (0 : Int32)) hx hb dX12_ridesMany_9 (by decide) ?_
      refine z_iald C0 hP (k := 93) (i := 0) (v := (nI n)) (rfl : zk 93 = 11) (Nat.lt_of_lt_of_eq (show 0 < 102 by decide) (rfl : zl 93 = 102).symm) rfl dX12_ridesMany_10 ((congrFun (hM) _).trans (hrn)) ?_
      refine z_N_ge hx hb (a := i) (b := n) (tgt := 39) dX12_ridesMany_11 rfl rfl (by omega) (by omega) (by decide) (fun c_11 => ?_) (fun c_11 => ?_)
      · skip
        refine lv_iload_n hx hb dX12_ridesMany_39 rfl (lv_at hl 1 rfl) ?_
        subst hQ_
        exact z_iret C0 hP hS (v := (nI k)) (by refine ⟨?_, rfl⟩; unfold q_rides; rw [hk, show i = n by omega]) dX12_ridesMany_40
      · skip
        refine lv_iload_n hx hb dX12_ridesMany_14 rfl (lv_at hl 1 rfl) ?_
        refine lv_aload_n hx hb dX12_ridesMany_15 rfl (lv_at hl 0 rfl) ?_
        refine z_get C0 hP (C := RX12) (T := TX12) (N := 21) (ci := 10) (index := 9) (k := 92) (ref := "WetSuitPedalsShoesModel") (zk_lt (rfl : zk 92 = 10) (by decide)) (zd_10 E (rfl : zk 92 = 10) _) rfl (zmi inU_12) 0 (by decide) (zm flRX12_9) rfl (v := .ref (E.1 93)) (rfl) dX12_ridesMany_16 ?_
        refine lv_iload_n hx hb dX12_ridesMany_19 rfl (lv_at hl 2 rfl) ?_
        refine z_Si C0 hP hD hA hS (As := [.ref (E.1 93), .int (nI i)]) (rest := [.int (nI k)]) (c_X12_isRide l E _ 93 i z_lit_Arr102_93 (by omega)) (va_cwS 2 hts (zgS zbw mlRX12_73 stX12_isRide iniRX12 coX12_isRide) rfl rfl rfl (by decide +kernel) ⟨Nat.le_of_ble_eq_true rfl, Nat.le_of_ble_eq_true rfl⟩) rfl hl.1 rfl (Nat.le_of_ble_eq_true rfl) dX12_ridesMany_20 ⟨Nat.zero_le _, Nat.zero_le _⟩ (fun r1 G1 H locs hw1 hP hS => ?_)
        obtain ⟨hr1, rfl⟩ := hw1
        have hr1 : s_isRide (r (2 + 3 * i)) = _ := (congrArg (fun z_ : Nat → Int32 => s_isRide (z_ (2 + 3 * i))) (show G 93 = r from hM)).symm.trans hr1
        subst hr1
        refine lv_if_eq (tgt := 30) hx hb dX12_ridesMany_23 (by decide) (fun c_23 => ?_) (fun c_23 => ?_)
        · skip
          refine lv_iconst (v := (0 : Int32)) hx hb dX12_ridesMany_30 (by decide) ?_
          refine z_iadd hx hb (a := k) (b := 0) (n := k + 0) dX12_ridesMany_31 rfl rfl rfl ?_
          refine lv_istore_n (lv' := [(1, .int (nI (k + 0))), (0, .ref (E.1 92)), (2, .int (nI i))]) hx hb dX12_ridesMany_32 rfl hl (by decide) rfl (fun ls hl => ?_)
          refine lv_iinc (v := (nI (i + 1))) (lv' := [(2, .int (nI (i + 1))), (1, .int (nI (k + 0))), (0, .ref (E.1 92))]) hx hb dX12_ridesMany_33 hl (k := 2) rfl (z_inc (by decide)) (by decide) rfl (fun ls hl => ?_)
          refine lv_goto (tgt := 4) hx hb dX12_ridesMany_36 (by decide) ?_
          exact ih_4 (i + 1) (k + 0) _ _ _ (by first | assumption | omega) (by rw [hk]; exact (s_cnt_n (fun q => absurd ((of_decide_eq_true q).symm.trans c_23) (by decide))).symm) hP hS (lv_sub hl [2, 1, 0] rfl) (by omega)
        · skip
          refine lv_iconst (v := (1 : Int32)) hx hb dX12_ridesMany_26 (by decide) ?_
          refine lv_goto (tgt := 31) hx hb dX12_ridesMany_27 (by decide) ?_
          refine z_iadd hx hb (a := k) (b := 1) (n := k + 1) dX12_ridesMany_31 rfl rfl rfl ?_
          refine lv_istore_n (lv' := [(1, .int (nI (k + 1))), (0, .ref (E.1 92)), (2, .int (nI i))]) hx hb dX12_ridesMany_32 rfl hl (by decide) rfl (fun ls hl => ?_)
          refine lv_iinc (v := (nI (i + 1))) (lv' := [(2, .int (nI (i + 1))), (1, .int (nI (k + 1))), (0, .ref (E.1 92))]) hx hb dX12_ridesMany_33 hl (k := 2) rfl (z_inc (by decide)) (by decide) rfl (fun ls hl => ?_)
          refine lv_goto (tgt := 4) hx hb dX12_ridesMany_36 (by decide) ?_
          exact ih_4 (i + 1) (k + 1) _ _ _ (by first | assumption | omega) (by rw [hk]; exact (s_cnt_y (decide_eq_true (s_ride_ne c_23))).symm) hP hS (lv_sub hl [2, 1, 0] rfl) (by omega)
  exact cut_4 (_ + 1) 0 0 _ _ _ (by first | assumption | omega) (by rfl) hP hS (lv_sub hl [2, 1, 0] rfl) (Nat.lt_succ_self _)
theorem mlRX12_182 : Cond.methodLink RX12 182 yX12_ridesMany ∈ zU := zU_m 1077 (by decide +kernel) rfl
theorem coX12_ridesMany : Cond.code yX12_ridesMany cX12_ridesMany 3 (some .int) ∈ zU := zU_m 1080 (by decide +kernel) rfl
theorem imX12_ridesMany : Cond.instanceMethod yX12_ridesMany ∈ zU := zU_m 1079 (by decide +kernel) rfl
theorem seX12_ridesMany : Cond.selects RX12 yX12_ridesMany yX12_ridesMany ∈ zU := zU_m 44 (by decide +kernel) rfl
theorem flRX12_105 : Cond.fieldLink RX12 105 "WetSuitPedalsShoesModel" "letterMany" "I" ∈ zU := zU_m 816 (by decide +kernel) rfl
set_option maxHeartbeats 4000000 in
set_option maxRecDepth 100000 in
theorem c_X12_count (l : Launch) (E : zE) (G : zG) (r : Nat → Int32) (n na : Nat) (what : Int32) (hM : G 93 = r) (hrn : r 0 = nI n) (hrna : r 1 = nI na) (hn10 : n ≤ 10) (hna : na ≤ 5) : zMi l yX12_count wsX12_count ({ frames := 3, cells := 0, slots := 0, locals := 65 } : Room) E G [.ref (E.1 92), .int what] (fun r1 G1 => zQm (A_count r n na (G 99) (G 92 9) (G 92 8) what) G r1 G1) := by
  refine zOf (cc := cX12_count) (nL := 5) (ret := (some .int)) RX12 (by decide) rfl rfl (Nat.le_of_ble_eq_true rfl) ?_
  intro p_ e_ s_ m_ a_ b_ me_ c_ ls C0 hP hS hl
  have hx := C0.1
  have hb := C0.2.1
  have hts := C0.2.2.2.2.1
  have hD : zD E (zA E s_.heap.size) := C0.2.2.2.2.2.2.2.2
  have hA : ∀ q : Nat, s_.heap.size ≤ q → zA E s_.heap.size q := fun q h => Or.inr h
  refine z_gen (fun Q_ hQ_ => ?_)
  have hl : lv_has ls 5 [(0, .ref (E.1 92)), (1, .int what)] := hl
  refine lv_iload_n hx hb dX12_count_0 rfl (lv_at hl 1 rfl) ?_
  refine lv_bipush (v := (11 : Int32)) hx hb dX12_count_1 (by decide) ?_
  refine lv_bipush (v := (16 : Int32)) hx hb dX12_count_3 (by decide) ?_
  refine z_Si C0 hP hD hA hS (As := [.int what, .int (11 : Int32), .int (16 : Int32)]) (rest := []) (c_X12_isIn l E _ what (11 : Int32) (16 : Int32)) (va_cwS 3 hts (zgS zbw mlRX12_62 stX12_isIn iniRX12 coX12_isIn) rfl rfl rfl (by decide +kernel) ⟨Nat.le_of_ble_eq_true rfl, Nat.le_of_ble_eq_true rfl⟩) rfl hl.1 rfl (Nat.le_of_ble_eq_true rfl) dX12_count_5 ⟨Nat.zero_le _, Nat.zero_le _⟩ (fun r1 G1 H locs hw1 hP hS => ?_)
  rcases hw1 with ⟨rfl, rfl, hi1_1, hi2_1⟩ | ⟨rfl, rfl, hi0_1⟩
  · skip
    have hi3_1 := Int32.not_lt.mpr hi1_1
    have hi4_1 := Int32.not_lt.mpr hi2_1
    obtain ⟨wh, hwh, rfl⟩ := z_1116 hi1_1 hi2_1
    have hy_wh : zix (nI wh) = wh := zix_n (by omega)
    refine lv_if_eq (tgt := 21) hx hb dX12_count_8 (by decide) (fun h_ => absurd h_ (by decide)) (fun _ => ?_)
    refine lv_aload_n hx hb dX12_count_11 rfl (lv_at hl 0 rfl) ?_
    refine z_get C0 hP (C := RX12) (T := TX12) (N := 21) (ci := 10) (index := 28) (k := 92) (ref := "WetSuitPedalsShoesModel") (zk_lt (rfl : zk 92 = 10) (by decide)) (zd_10 E (rfl : zk 92 = 10) _) rfl (zmi inU_12) 7 (by decide) (zm flRX12_28) rfl (v := .ref (E.1 99)) (rfl) dX12_count_12 ?_
    refine lv_iload_n hx hb dX12_count_15 rfl (lv_at hl 1 rfl) ?_
    refine lv_bipush (v := (10 : Int32)) hx hb dX12_count_16 (by decide) ?_
    refine z_isub hx hb (a := wh) (b := 10) (n := wh - 10) dX12_count_18 rfl rfl (by omega) (by omega) ?_
    refine z_iald C0 hP (k := 99) (i := wh - 10) (v := (G 99 (wh - 10))) (rfl : zk 99 = 11) (Nat.lt_of_lt_of_eq (show wh - 10 < 7 by omega) (rfl : zl 99 = 7).symm) rfl dX12_count_19 (rfl) ?_
    subst hQ_
    exact z_iret C0 hP hS (v := (G 99 (wh - 10))) (by exact zQm_of (k := 0) (A_count_r hwh.1 hwh.2) (fun k hk => rfl) (rfl)) dX12_count_20
  · skip
    have hi5_1 := z_nin hi0_1
    refine lv_if_eq (tgt := 21) hx hb dX12_count_8 (by decide) (fun _ => ?_) (fun h_ => absurd (by decide) h_)
    refine lv_iconst (v := (0 : Int32)) hx hb dX12_count_21 (by decide) ?_
    refine lv_istore_n (lv' := [(2, .int (0 : Int32)), (0, .ref (E.1 92)), (1, .int what)]) hx hb dX12_count_22 rfl hl (by decide) rfl (fun ls hl => ?_)
    refine lv_iload_n hx hb dX12_count_23 rfl (lv_at hl 2 rfl) ?_
    rcases z_sw (what) 0 8 with hsw | ⟨k_, hk_, hsw⟩
    · skip
      refine lv_tableOut (tgt := 224) hx hb dX12_count_24 (z_swo hsw rfl rfl) (by decide) ?_
      have hsn_24_0 : ¬ what = (0 : Int32) := fun q => by rw [q] at hsw; revert hsw; decide
      have hsn_24_1 : ¬ what = (1 : Int32) := fun q => by rw [q] at hsw; revert hsw; decide
      have hsn_24_2 : ¬ what = (2 : Int32) := fun q => by rw [q] at hsw; revert hsw; decide
      have hsn_24_3 : ¬ what = (3 : Int32) := fun q => by rw [q] at hsw; revert hsw; decide
      have hsn_24_4 : ¬ what = (4 : Int32) := fun q => by rw [q] at hsw; revert hsw; decide
      have hsn_24_5 : ¬ what = (5 : Int32) := fun q => by rw [q] at hsw; revert hsw; decide
      have hsn_24_6 : ¬ what = (6 : Int32) := fun q => by rw [q] at hsw; revert hsw; decide
      have hsn_24_7 : ¬ what = (7 : Int32) := fun q => by rw [q] at hsw; revert hsw; decide
      refine lv_bipush (v := (-9 : Int32)) hx hb dX12_count_224 (by decide) ?_
      subst hQ_
      exact z_iret C0 hP hS (v := (-9 : Int32)) (by have e9 := z_rfi_no hi0_1; exact zQm_of (k := 0) (by simp [A_count, hi5_1, hsn_24_0, hsn_24_1, hsn_24_2, hsn_24_3, hsn_24_4, hsn_24_5, hsn_24_6, hsn_24_7, e9]) (fun k hk => rfl) (rfl)) dX12_count_226
    · skip
      rcases (show k_ = 0 ∨ k_ = 1 ∨ k_ = 2 ∨ k_ = 3 ∨ k_ = 4 ∨ k_ = 5 ∨ k_ = 6 ∨ k_ = 7 by omega) with rfl | rfl | rfl | rfl | rfl | rfl | rfl | rfl
      · skip
        have hsw_24 : what = (0 : Int32) := z_swi hsw (by decide)
        refine lv_tableIn (tgt := 72) (off := 48) hx hb dX12_count_24 (by rw [hsw_24]; decide) (by rw [hsw_24]; decide) (by rw [hsw_24]; rfl) (by decide) ?_
        have hs9 := hsw_24
        subst hs9
        refine lv_aload_n hx hb dX12_count_72 rfl (lv_at hl 1 rfl) ?_
        refine z_get C0 hP (C := RX12) (T := TX12) (N := 21) (ci := 10) (index := 9) (k := 92) (ref := "WetSuitPedalsShoesModel") (zk_lt (rfl : zk 92 = 10) (by decide)) (zd_10 E (rfl : zk 92 = 10) _) rfl (zmi inU_12) 0 (by decide) (zm flRX12_9) rfl (v := .ref (E.1 93)) (rfl) dX12_count_73 ?_
        refine lv_iload_n hx hb dX12_count_76 rfl (lv_at hl 2 rfl) ?_
        refine z_iald C0 hP (k := 93) (i := 0) (v := (nI n)) (rfl : zk 93 = 11) (Nat.lt_of_lt_of_eq (show 0 < 102 by decide) (rfl : zl 93 = 102).symm) rfl dX12_count_77 ((congrFun (hM) _).trans (hrn)) ?_
        subst hQ_
        exact z_iret C0 hP hS (v := (nI n)) (by have e9 := z_rfi_no hi0_1; exact zQm_of (k := 0) (by simp [A_count, hi5_1, hsw_24, e9]) (fun k hk => rfl) (rfl)) dX12_count_78
      · skip
        have hsw_24 : what = (1 : Int32) := z_swi hsw (by decide)
        refine lv_tableIn (tgt := 72) (off := 48) hx hb dX12_count_24 (by rw [hsw_24]; decide) (by rw [hsw_24]; decide) (by rw [hsw_24]; rfl) (by decide) ?_
        have hs9 := hsw_24
        subst hs9
        refine lv_aload_n hx hb dX12_count_72 rfl (lv_at hl 1 rfl) ?_
        refine z_get C0 hP (C := RX12) (T := TX12) (N := 21) (ci := 10) (index := 9) (k := 92) (ref := "WetSuitPedalsShoesModel") (zk_lt (rfl : zk 92 = 10) (by decide)) (zd_10 E (rfl : zk 92 = 10) _) rfl (zmi inU_12) 0 (by decide) (zm flRX12_9) rfl (v := .ref (E.1 93)) (rfl) dX12_count_73 ?_
        refine lv_iload_n hx hb dX12_count_76 rfl (lv_at hl 2 rfl) ?_
        refine z_iald C0 hP (k := 93) (i := 1) (v := (nI na)) (rfl : zk 93 = 11) (Nat.lt_of_lt_of_eq (show 1 < 102 by decide) (rfl : zl 93 = 102).symm) rfl dX12_count_77 ((congrFun (hM) _).trans (hrna)) ?_
        subst hQ_
        exact z_iret C0 hP hS (v := (nI na)) (by have e9 := z_rfi_no hi0_1; exact zQm_of (k := 0) (by simp [A_count, hi5_1, hsw_24, e9]) (fun k hk => rfl) (rfl)) dX12_count_78
      · skip
        have hsw_24 : what = (2 : Int32) := z_swi hsw (by decide)
        refine lv_tableIn (tgt := 79) (off := 55) hx hb dX12_count_24 (by rw [hsw_24]; decide) (by rw [hsw_24]; decide) (by rw [hsw_24]; rfl) (by decide) ?_
        refine lv_iconst (v := (0 : Int32)) hx hb dX12_count_79 (by decide) ?_
        refine lv_istore_n (lv' := [(3, .int (0 : Int32)), (2, .int (0 : Int32)), (0, .ref (E.1 92)), (1, .int what)]) hx hb dX12_count_80 rfl hl (by decide) rfl (fun ls hl => ?_)
        have cut_81 : ∀ (fuel : Nat), ∀ (i : Nat) (sm : Int32) (H : Heap) (locs : List Loc) (ls : Array Slot), (i ≤ n) → (sm = s_acc (fun i => r (4 + 3 * i)) 0 i) → zP E G H → va_S (zA E s_.heap.size) s_.heap H locs → lv_has ls 5 [(0, .ref (E.1 92)), (1, .int what), (2, .int sm), (3, .int (nI i))] → n - i < fuel → W p_ l e_ ({ frames := 3, cells := 0, slots := 0, locals := 65 } : Room) s_ m_ a_ b_ me_ c_ H locs 0 0 Q_ (F0 m_ 81 ls []) := by
          intro fuel
          induction fuel with
          | zero =>
            intro i  sm  H locs ls hin hs hP hS hl hfu
            exact absurd hfu (Nat.not_lt_zero _)
          | succ fuel ih_81 =>
            intro i  sm  H locs ls hin hs hP hS hl hfu_81
            refine lv_iload_n hx hb dX12_count_81 rfl (lv_at hl 3 rfl) ?_
            refine lv_aload_n hx hb dX12_count_82 rfl (lv_at hl 0 rfl) ?_
            refine z_get C0 hP (C := RX12) (T := TX12) (N := 21) (ci := 10) (index := 9) (k := 92) (ref := "WetSuitPedalsShoesModel") (zk_lt (rfl : zk 92 = 10) (by decide)) (zd_10 E (rfl : zk 92 = 10) _) rfl (zmi inU_12) 0 (by decide) (zm flRX12_9) rfl (v := .ref (E.1 93)) (rfl) dX12_count_83 ?_
            refine lv_iconst (v := (0 : Int32)) hx hb dX12_count_86 (by decide) ?_
            refine z_iald C0 hP (k := 93) (i := 0) (v := (nI n)) (rfl : zk 93 = 11) (Nat.lt_of_lt_of_eq (show 0 < 102 by decide) (rfl : zl 93 = 102).symm) rfl dX12_count_87 ((congrFun (hM) _).trans (hrn)) ?_
            refine z_N_ge hx hb (a := i) (b := n) (tgt := 110) dX12_count_88 rfl rfl (by omega) (by omega) (by decide) (fun c_88 => ?_) (fun c_88 => ?_)
            · skip
              have e8 := (show q_len r n = sm by unfold q_len; rw [hs, show i = n by omega])
              refine lv_iload_n hx hb dX12_count_110 rfl (lv_at hl 2 rfl) ?_
              subst hQ_
              exact z_iret C0 hP hS (v := sm) (by have e9 := z_rfi_no hi0_1; exact zQm_of (k := 0) (by simp [A_count, hi5_1, hsw_24, c_88, e8, e9]) (fun k hk => rfl) (rfl)) dX12_count_111
            · skip
              refine lv_iload_n hx hb dX12_count_91 rfl (lv_at hl 2 rfl) ?_
              refine lv_aload_n hx hb dX12_count_92 rfl (lv_at hl 0 rfl) ?_
              refine z_get C0 hP (C := RX12) (T := TX12) (N := 21) (ci := 10) (index := 9) (k := 92) (ref := "WetSuitPedalsShoesModel") (zk_lt (rfl : zk 92 = 10) (by decide)) (zd_10 E (rfl : zk 92 = 10) _) rfl (zmi inU_12) 0 (by decide) (zm flRX12_9) rfl (v := .ref (E.1 93)) (rfl) dX12_count_93 ?_
              refine lv_iload_n hx hb dX12_count_96 rfl (lv_at hl 3 rfl) ?_
              refine lv_iconst (v := (2 : Int32)) hx hb dX12_count_97 (by decide) ?_
              refine z_Si C0 hP hD hA hS (As := [.int (nI i), .int (2 : Int32)]) (rest := [.ref (E.1 93), .int sm]) (c_X12_of l E _ i 2) (va_cwS 2 hts (zgS zbw mlRX12_66 stX12_of iniRX12 coX12_of) rfl rfl rfl (by decide +kernel) ⟨Nat.le_of_ble_eq_true rfl, Nat.le_of_ble_eq_true rfl⟩) rfl hl.1 rfl (Nat.le_of_ble_eq_true rfl) dX12_count_98 ⟨Nat.zero_le _, Nat.zero_le _⟩ (fun r2 G2 H locs hw2 hP hS => ?_)
              obtain ⟨hr2, rfl⟩ := hw2
              subst hr2
              refine z_eqi (y := (nI (4 + 3 * i))) (congrArg nI (by omega)) ?_
              refine z_iald C0 hP (k := 93) (i := 4 + 3 * i) (v := (r (4 + 3 * i))) (rfl : zk 93 = 11) (Nat.lt_of_lt_of_eq (show 4 + 3 * i < 102 by omega) (rfl : zl 93 = 102).symm) rfl dX12_count_101 (congrFun (hM) _) ?_
              refine lv_iadd hx hb dX12_count_102 ?_
              refine lv_istore_n (lv' := [(2, .int (sm + (r (4 + 3 * i)))), (0, .ref (E.1 92)), (1, .int what), (3, .int (nI i))]) hx hb dX12_count_103 rfl hl (by decide) rfl (fun ls hl => ?_)
              refine lv_iinc (v := (nI (i + 1))) (lv' := [(3, .int (nI (i + 1))), (2, .int (sm + (r (4 + 3 * i)))), (0, .ref (E.1 92)), (1, .int what)]) hx hb dX12_count_104 hl (k := 3) rfl (z_inc (by decide)) (by decide) rfl (fun ls hl => ?_)
              refine lv_goto (tgt := 81) hx hb dX12_count_107 (by decide) ?_
              exact ih_81 (i + 1) (sm + (r (4 + 3 * i))) _ _ _ (by first | assumption | omega) (by rw [hs]; rfl) hP hS (lv_sub hl [2, 3, 1, 0] rfl) (by omega)
        exact cut_81 (_ + 1) 0 (0 : Int32) _ _ _ (by first | assumption | omega) (by rfl) hP hS (lv_sub hl [2, 3, 1, 0] rfl) (Nat.lt_succ_self _)
      · skip
        have hsw_24 : what = (3 : Int32) := z_swi hsw (by decide)
        refine lv_tableIn (tgt := 112) (off := 88) hx hb dX12_count_24 (by rw [hsw_24]; decide) (by rw [hsw_24]; decide) (by rw [hsw_24]; rfl) (by decide) ?_
        refine lv_iconst (v := (0 : Int32)) hx hb dX12_count_112 (by decide) ?_
        refine lv_istore_n (lv' := [(3, .int (0 : Int32)), (2, .int (0 : Int32)), (0, .ref (E.1 92)), (1, .int what)]) hx hb dX12_count_113 rfl hl (by decide) rfl (fun ls hl => ?_)
        have cut_114 : ∀ (fuel : Nat), ∀ (i k : Nat) (H : Heap) (locs : List Loc) (ls : Array Slot), (i ≤ n) → (k = s_cnt (fun i => decide (r (2 + 3 * i) = 6)) i) → zP E G H → va_S (zA E s_.heap.size) s_.heap H locs → lv_has ls 5 [(0, .ref (E.1 92)), (1, .int what), (2, .int (nI k)), (3, .int (nI i))] → n - i < fuel → W p_ l e_ ({ frames := 3, cells := 0, slots := 0, locals := 65 } : Room) s_ m_ a_ b_ me_ c_ H locs 0 0 Q_ (F0 m_ 114 ls []) := by
          intro fuel
          induction fuel with
          | zero =>
            intro i k  H locs ls hin hk hP hS hl hfu
            exact absurd hfu (Nat.not_lt_zero _)
          | succ fuel ih_114 =>
            intro i k  H locs ls hin hk hP hS hl hfu_114
            refine lv_iload_n hx hb dX12_count_114 rfl (lv_at hl 3 rfl) ?_
            refine lv_aload_n hx hb dX12_count_115 rfl (lv_at hl 0 rfl) ?_
            refine z_get C0 hP (C := RX12) (T := TX12) (N := 21) (ci := 10) (index := 9) (k := 92) (ref := "WetSuitPedalsShoesModel") (zk_lt (rfl : zk 92 = 10) (by decide)) (zd_10 E (rfl : zk 92 = 10) _) rfl (zmi inU_12) 0 (by decide) (zm flRX12_9) rfl (v := .ref (E.1 93)) (rfl) dX12_count_116 ?_
            refine lv_iconst (v := (0 : Int32)) hx hb dX12_count_119 (by decide) ?_
            refine z_iald C0 hP (k := 93) (i := 0) (v := (nI n)) (rfl : zk 93 = 11) (Nat.lt_of_lt_of_eq (show 0 < 102 by decide) (rfl : zl 93 = 102).symm) rfl dX12_count_120 ((congrFun (hM) _).trans (hrn)) ?_
            refine z_N_ge hx hb (a := i) (b := n) (tgt := 153) dX12_count_121 rfl rfl (by omega) (by omega) (by decide) (fun c_121 => ?_) (fun c_121 => ?_)
            · skip
              have e8 := (show q_chgs r n = k by unfold q_chgs; rw [hk, show i = n by omega])
              refine lv_iload_n hx hb dX12_count_153 rfl (lv_at hl 2 rfl) ?_
              subst hQ_
              exact z_iret C0 hP hS (v := (nI k)) (by have e9 := z_rfi_no hi0_1; exact zQm_of (k := 0) (by simp [A_count, hi5_1, hsw_24, c_121, e8, e9]) (fun k hk => rfl) (rfl)) dX12_count_154
            · skip
              refine lv_iload_n hx hb dX12_count_124 rfl (lv_at hl 2 rfl) ?_
              refine lv_aload_n hx hb dX12_count_125 rfl (lv_at hl 0 rfl) ?_
              refine z_get C0 hP (C := RX12) (T := TX12) (N := 21) (ci := 10) (index := 9) (k := 92) (ref := "WetSuitPedalsShoesModel") (zk_lt (rfl : zk 92 = 10) (by decide)) (zd_10 E (rfl : zk 92 = 10) _) rfl (zmi inU_12) 0 (by decide) (zm flRX12_9) rfl (v := .ref (E.1 93)) (rfl) dX12_count_126 ?_
              refine lv_iload_n hx hb dX12_count_129 rfl (lv_at hl 3 rfl) ?_
              refine lv_iconst (v := (0 : Int32)) hx hb dX12_count_130 (by decide) ?_
              refine z_Si C0 hP hD hA hS (As := [.int (nI i), .int (0 : Int32)]) (rest := [.ref (E.1 93), .int (nI k)]) (c_X12_of l E _ i 0) (va_cwS 2 hts (zgS zbw mlRX12_66 stX12_of iniRX12 coX12_of) rfl rfl rfl (by decide +kernel) ⟨Nat.le_of_ble_eq_true rfl, Nat.le_of_ble_eq_true rfl⟩) rfl hl.1 rfl (Nat.le_of_ble_eq_true rfl) dX12_count_131 ⟨Nat.zero_le _, Nat.zero_le _⟩ (fun r3 G3 H locs hw3 hP hS => ?_)
              obtain ⟨hr3, rfl⟩ := hw3
              subst hr3
              refine z_eqi (y := (nI (2 + 3 * i))) (congrArg nI (by omega)) ?_
              refine z_iald C0 hP (k := 93) (i := 2 + 3 * i) (v := (r (2 + 3 * i))) (rfl : zk 93 = 11) (Nat.lt_of_lt_of_eq (show 2 + 3 * i < 102 by omega) (rfl : zl 93 = 102).symm) rfl dX12_count_134 (congrFun (hM) _) ?_
              refine lv_bipush (v := (6 : Int32)) hx hb dX12_count_135 (by decide) ?_
              refine lv_icmp_ne (tgt := 144) hx hb dX12_count_137 (by decide) (fun c_137 => ?_) (fun c_137 => ?_)
              · skip
                refine lv_iconst (v := (0 : Int32)) hx hb dX12_count_144 (by decide) ?_
                refine z_iadd hx hb (a := k) (b := 0) (n := k + 0) dX12_count_145 rfl rfl rfl ?_
                refine lv_istore_n (lv' := [(2, .int (nI (k + 0))), (0, .ref (E.1 92)), (1, .int what), (3, .int (nI i))]) hx hb dX12_count_146 rfl hl (by decide) rfl (fun ls hl => ?_)
                refine lv_iinc (v := (nI (i + 1))) (lv' := [(3, .int (nI (i + 1))), (2, .int (nI (k + 0))), (0, .ref (E.1 92)), (1, .int what)]) hx hb dX12_count_147 hl (k := 3) rfl (z_inc (by decide)) (by decide) rfl (fun ls hl => ?_)
                refine lv_goto (tgt := 114) hx hb dX12_count_150 (by decide) ?_
                exact ih_114 (i + 1) (k + 0) _ _ _ (by first | assumption | omega) (by rw [hk]; exact (s_cnt_n (fun q => c_137 (of_decide_eq_true q))).symm) hP hS (lv_sub hl [2, 3, 1, 0] rfl) (by omega)
              · skip
                refine lv_iconst (v := (1 : Int32)) hx hb dX12_count_140 (by decide) ?_
                refine lv_goto (tgt := 145) hx hb dX12_count_141 (by decide) ?_
                refine z_iadd hx hb (a := k) (b := 1) (n := k + 1) dX12_count_145 rfl rfl rfl ?_
                refine lv_istore_n (lv' := [(2, .int (nI (k + 1))), (0, .ref (E.1 92)), (1, .int what), (3, .int (nI i))]) hx hb dX12_count_146 rfl hl (by decide) rfl (fun ls hl => ?_)
                refine lv_iinc (v := (nI (i + 1))) (lv' := [(3, .int (nI (i + 1))), (2, .int (nI (k + 1))), (0, .ref (E.1 92)), (1, .int what)]) hx hb dX12_count_147 hl (k := 3) rfl (z_inc (by decide)) (by decide) rfl (fun ls hl => ?_)
                refine lv_goto (tgt := 114) hx hb dX12_count_150 (by decide) ?_
                exact ih_114 (i + 1) (k + 1) _ _ _ (by first | assumption | omega) (by rw [hk]; exact (s_cnt_y (decide_eq_true c_137)).symm) hP hS (lv_sub hl [2, 3, 1, 0] rfl) (by omega)
        exact cut_114 (_ + 1) 0 0 _ _ _ (by first | assumption | omega) (by rfl) hP hS (lv_sub hl [2, 3, 1, 0] rfl) (Nat.lt_succ_self _)
      · skip
        have hsw_24 : what = (4 : Int32) := z_swi hsw (by decide)
        refine lv_tableIn (tgt := 155) (off := 131) hx hb dX12_count_24 (by rw [hsw_24]; decide) (by rw [hsw_24]; decide) (by rw [hsw_24]; rfl) (by decide) ?_
        refine lv_aload_n hx hb dX12_count_155 rfl (lv_at hl 1 rfl) ?_
        refine z_Vi C0 hP hD hA hS (As := []) (rest := []) (k := 92) (c_X12_ridesMany l E _ r n na (hM) hrn hrna hn10 hna) (cwV 0 hts (zgV zbw mlRX12_182 imX12_ridesMany seX12_ridesMany iniRX12 coX12_ridesMany) rfl rfl rfl (by decide +kernel) ⟨Nat.le_of_ble_eq_true rfl, Nat.le_of_ble_eq_true rfl⟩) (zk_lt (rfl : zk 92 = 10) (by decide)) (zd_10 E (rfl : zk 92 = 10) _) rfl rfl rfl hl.1 rfl (Nat.le_of_ble_eq_true rfl) dX12_count_156 ⟨Nat.zero_le _, Nat.zero_le _⟩ (fun r4 G4 H locs hw4 hP hS => ?_)
        obtain ⟨hr4, rfl⟩ := hw4
        subst hr4
        subst hQ_
        exact z_iret C0 hP hS (v := (nI (q_rides r n))) (by have e9 := z_rfi_no hi0_1; exact zQm_of (k := 0) (by simp [A_count, hi5_1, hsw_24, e9]) (fun k hk => rfl) (rfl)) dX12_count_159
      · skip
        have hsw_24 : what = (5 : Int32) := z_swi hsw (by decide)
        refine lv_tableIn (tgt := 160) (off := 136) hx hb dX12_count_24 (by rw [hsw_24]; decide) (by rw [hsw_24]; decide) (by rw [hsw_24]; rfl) (by decide) ?_
        refine lv_iconst (v := (0 : Int32)) hx hb dX12_count_160 (by decide) ?_
        refine lv_istore_n (lv' := [(3, .int (0 : Int32)), (2, .int (0 : Int32)), (0, .ref (E.1 92)), (1, .int what)]) hx hb dX12_count_161 rfl hl (by decide) rfl (fun ls hl => ?_)
        have cut_162 : ∀ (fuel : Nat), ∀ (a : Nat) (sm : Int32) (H : Heap) (locs : List Loc) (ls : Array Slot), (a ≤ na) → (sm = s_tot (fun a i => r (52 + 10 * a + i)) n a) → zP E G H → va_S (zA E s_.heap.size) s_.heap H locs → lv_has ls 5 [(0, .ref (E.1 92)), (1, .int what), (2, .int sm), (3, .int (nI a))] → na - a < fuel → W p_ l e_ ({ frames := 3, cells := 0, slots := 0, locals := 65 } : Room) s_ m_ a_ b_ me_ c_ H locs 0 0 Q_ (F0 m_ 162 ls []) := by
          intro fuel
          induction fuel with
          | zero =>
            intro a  sm  H locs ls han hs hP hS hl hfu
            exact absurd hfu (Nat.not_lt_zero _)
          | succ fuel ih_162 =>
            intro a  sm  H locs ls han hs hP hS hl hfu_162
            refine lv_iload_n hx hb dX12_count_162 rfl (lv_at hl 3 rfl) ?_
            refine lv_aload_n hx hb dX12_count_163 rfl (lv_at hl 0 rfl) ?_
            refine z_get C0 hP (C := RX12) (T := TX12) (N := 21) (ci := 10) (index := 9) (k := 92) (ref := "WetSuitPedalsShoesModel") (zk_lt (rfl : zk 92 = 10) (by decide)) (zd_10 E (rfl : zk 92 = 10) _) rfl (zmi inU_12) 0 (by decide) (zm flRX12_9) rfl (v := .ref (E.1 93)) (rfl) dX12_count_164 ?_
            refine lv_iconst (v := (1 : Int32)) hx hb dX12_count_167 (by decide) ?_
            refine z_iald C0 hP (k := 93) (i := 1) (v := (nI na)) (rfl : zk 93 = 11) (Nat.lt_of_lt_of_eq (show 1 < 102 by decide) (rfl : zl 93 = 102).symm) rfl dX12_count_168 ((congrFun (hM) _).trans (hrna)) ?_
            refine z_N_ge hx hb (a := a) (b := na) (tgt := 212) dX12_count_169 rfl rfl (by omega) (by omega) (by decide) (fun c_169 => ?_) (fun c_169 => ?_)
            · skip
              have e8 := (show q_allt r n na = sm by unfold q_allt; rw [hs, show a = na by omega])
              refine lv_iload_n hx hb dX12_count_212 rfl (lv_at hl 2 rfl) ?_
              subst hQ_
              exact z_iret C0 hP hS (v := sm) (by have e9 := z_rfi_no hi0_1; exact zQm_of (k := 0) (by simp [A_count, hi5_1, hsw_24, c_169, e8, e9]) (fun k hk => rfl) (rfl)) dX12_count_213
            · skip
              refine lv_iconst (v := (0 : Int32)) hx hb dX12_count_172 (by decide) ?_
              refine lv_istore (lv' := [(4, .int (0 : Int32)), (0, .ref (E.1 92)), (1, .int what), (2, .int sm), (3, .int (nI a))]) hx hb dX12_count_173 hl (by decide) rfl (fun ls hl => ?_)
              have cut_175 : ∀ (fuel : Nat), ∀ (i : Nat) (sm : Int32) (H : Heap) (locs : List Loc) (ls : Array Slot), (i ≤ n) → (sm = s_acc (fun i => r (52 + 10 * a + i)) (s_tot (fun a i => r (52 + 10 * a + i)) n a) i) → zP E G H → va_S (zA E s_.heap.size) s_.heap H locs → lv_has ls 5 [(0, .ref (E.1 92)), (1, .int what), (2, .int sm), (3, .int (nI a)), (4, .int (nI i))] → n - i < fuel → W p_ l e_ ({ frames := 3, cells := 0, slots := 0, locals := 65 } : Room) s_ m_ a_ b_ me_ c_ H locs 0 0 Q_ (F0 m_ 175 ls []) := by
                intro fuel
                induction fuel with
                | zero =>
                  intro i  sm  H locs ls hin hs2 hP hS hl hfu
                  exact absurd hfu (Nat.not_lt_zero _)
                | succ fuel ih_175 =>
                  intro i  sm  H locs ls hin hs2 hP hS hl hfu_175
                  refine lv_iload hx hb dX12_count_175 (lv_at hl 4 rfl) ?_
                  refine lv_aload_n hx hb dX12_count_177 rfl (lv_at hl 0 rfl) ?_
                  refine z_get C0 hP (C := RX12) (T := TX12) (N := 21) (ci := 10) (index := 9) (k := 92) (ref := "WetSuitPedalsShoesModel") (zk_lt (rfl : zk 92 = 10) (by decide)) (zd_10 E (rfl : zk 92 = 10) _) rfl (zmi inU_12) 0 (by decide) (zm flRX12_9) rfl (v := .ref (E.1 93)) (rfl) dX12_count_178 ?_
                  refine lv_iconst (v := (0 : Int32)) hx hb dX12_count_181 (by decide) ?_
                  refine z_iald C0 hP (k := 93) (i := 0) (v := (nI n)) (rfl : zk 93 = 11) (Nat.lt_of_lt_of_eq (show 0 < 102 by decide) (rfl : zl 93 = 102).symm) rfl dX12_count_182 ((congrFun (hM) _).trans (hrn)) ?_
                  refine z_N_ge hx hb (a := i) (b := n) (tgt := 206) dX12_count_183 rfl rfl (by omega) (by omega) (by decide) (fun c_183 => ?_) (fun c_183 => ?_)
                  · skip
                    refine lv_iinc (v := (nI (a + 1))) (lv' := [(3, .int (nI (a + 1))), (0, .ref (E.1 92)), (1, .int what), (2, .int sm), (4, .int (nI i))]) hx hb dX12_count_206 hl (k := 3) rfl (z_inc (by decide)) (by decide) rfl (fun ls hl => ?_)
                    refine lv_goto (tgt := 162) hx hb dX12_count_209 (by decide) ?_
                    exact ih_162 (a + 1) sm _ _ _ (by first | assumption | omega) (by rw [hs2, show i = n by omega]; rfl) hP hS (lv_sub hl [1, 2, 3, 0] rfl) (by omega)
                  · skip
                    refine lv_iload_n hx hb dX12_count_186 rfl (lv_at hl 2 rfl) ?_
                    refine lv_aload_n hx hb dX12_count_187 rfl (lv_at hl 0 rfl) ?_
                    refine z_get C0 hP (C := RX12) (T := TX12) (N := 21) (ci := 10) (index := 9) (k := 92) (ref := "WetSuitPedalsShoesModel") (zk_lt (rfl : zk 92 = 10) (by decide)) (zd_10 E (rfl : zk 92 = 10) _) rfl (zmi inU_12) 0 (by decide) (zm flRX12_9) rfl (v := .ref (E.1 93)) (rfl) dX12_count_188 ?_
                    refine lv_iload_n hx hb dX12_count_191 rfl (lv_at hl 3 rfl) ?_
                    refine lv_iload hx hb dX12_count_192 (lv_at hl 4 rfl) ?_
                    refine z_Si C0 hP hD hA hS (As := [.int (nI a), .int (nI i)]) (rest := [.ref (E.1 93), .int sm]) (c_X12_tried l E _ a i) (va_cwS 2 hts (zgS zbw mlRX12_91 stX12_tried iniRX12 coX12_tried) rfl rfl rfl (by decide +kernel) ⟨Nat.le_of_ble_eq_true rfl, Nat.le_of_ble_eq_true rfl⟩) rfl hl.1 rfl (Nat.le_of_ble_eq_true rfl) dX12_count_194 ⟨Nat.zero_le _, Nat.zero_le _⟩ (fun r5 G5 H locs hw5 hP hS => ?_)
                    obtain ⟨hr5, rfl⟩ := hw5
                    subst hr5
                    refine z_eqi (y := (nI (52 + 10 * a + i))) (congrArg nI (by omega)) ?_
                    refine z_iald C0 hP (k := 93) (i := 52 + 10 * a + i) (v := (r (52 + 10 * a + i))) (rfl : zk 93 = 11) (Nat.lt_of_lt_of_eq (show 52 + 10 * a + i < 102 by omega) (rfl : zl 93 = 102).symm) rfl dX12_count_197 (congrFun (hM) _) ?_
                    refine lv_iadd hx hb dX12_count_198 ?_
                    refine lv_istore_n (lv' := [(2, .int (sm + (r (52 + 10 * a + i)))), (0, .ref (E.1 92)), (1, .int what), (3, .int (nI a)), (4, .int (nI i))]) hx hb dX12_count_199 rfl hl (by decide) rfl (fun ls hl => ?_)
                    refine lv_iinc (v := (nI (i + 1))) (lv' := [(4, .int (nI (i + 1))), (2, .int (sm + (r (52 + 10 * a + i)))), (0, .ref (E.1 92)), (1, .int what), (3, .int (nI a))]) hx hb dX12_count_200 hl (k := 4) rfl (z_inc (by decide)) (by decide) rfl (fun ls hl => ?_)
                    refine lv_goto (tgt := 175) hx hb dX12_count_203 (by decide) ?_
                    exact ih_175 (i + 1) (sm + (r (52 + 10 * a + i))) _ _ _ (by first | assumption | omega) (by rw [hs2]; rfl) hP hS (lv_sub hl [2, 3, 1, 4, 0] rfl) (by omega)
              exact cut_175 (_ + 1) 0 sm _ _ _ (by first | assumption | omega) (by exact hs) hP hS (lv_sub hl [1, 2, 3, 4, 0] rfl) (Nat.lt_succ_self _)
        exact cut_162 (_ + 1) 0 (0 : Int32) _ _ _ (by first | assumption | omega) (by rfl) hP hS (lv_sub hl [2, 3, 1, 0] rfl) (Nat.lt_succ_self _)
      · skip
        have hsw_24 : what = (6 : Int32) := z_swi hsw (by decide)
        refine lv_tableIn (tgt := 214) (off := 190) hx hb dX12_count_24 (by rw [hsw_24]; decide) (by rw [hsw_24]; decide) (by rw [hsw_24]; rfl) (by decide) ?_
        refine lv_aload_n hx hb dX12_count_214 rfl (lv_at hl 1 rfl) ?_
        refine z_get C0 hP (C := RX12) (T := TX12) (N := 21) (ci := 10) (index := 192) (k := 92) (ref := "WetSuitPedalsShoesModel") (zk_lt (rfl : zk 92 = 10) (by decide)) (zd_10 E (rfl : zk 92 = 10) _) rfl (zmi inU_12) 9 (by decide) (zm flRX12_192) rfl (v := .int (G 92 9)) (rfl) dX12_count_215 ?_
        subst hQ_
        exact z_iret C0 hP hS (v := (G 92 9)) (by have e9 := z_rfi_no hi0_1; exact zQm_of (k := 0) (by simp [A_count, hi5_1, hsw_24, e9]) (fun k hk => rfl) (rfl)) dX12_count_218
      · skip
        have hsw_24 : what = (7 : Int32) := z_swi hsw (by decide)
        refine lv_tableIn (tgt := 219) (off := 195) hx hb dX12_count_24 (by rw [hsw_24]; decide) (by rw [hsw_24]; decide) (by rw [hsw_24]; rfl) (by decide) ?_
        refine lv_aload_n hx hb dX12_count_219 rfl (lv_at hl 1 rfl) ?_
        refine z_get C0 hP (C := RX12) (T := TX12) (N := 21) (ci := 10) (index := 105) (k := 92) (ref := "WetSuitPedalsShoesModel") (zk_lt (rfl : zk 92 = 10) (by decide)) (zd_10 E (rfl : zk 92 = 10) _) rfl (zmi inU_12) 8 (by decide) (zm flRX12_105) rfl (v := .int (G 92 8)) (rfl) dX12_count_220 ?_
        subst hQ_
        exact z_iret C0 hP hS (v := (G 92 8)) (by have e9 := z_rfi_no hi0_1; exact zQm_of (k := 0) (by simp [A_count, hi5_1, hsw_24, e9]) (fun k hk => rfl) (rfl)) dX12_count_223
