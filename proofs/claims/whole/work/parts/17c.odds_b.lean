/-! laid by wip/whole/vcg.py -/
set_option maxHeartbeats 4000000 in
set_option maxRecDepth 100000 in
theorem c_X12_tube (l : Launch) (E : zE) (G : zG) (r : Nat → Int32) (n na : Nat) (athlete t u : Int32) (hM : G 93 = r) (hrn : r 0 = nI n) (hrna : r 1 = nI na) (hn10 : n ≤ 10) (hna : na ≤ 5) : zMi l yX12_tube wsX12_tube ({ frames := 3, cells := 0, slots := 0, locals := 65 } : Room) E G [.ref (E.1 92), .int athlete, .int t, .int u] (fun r1 G1 => zQm (A_tube r n na athlete t u) G r1 G1) := by
  refine zOf (cc := cX12_tube) (nL := 4) (ret := (some .int)) RX12 (by decide) rfl rfl (Nat.le_of_ble_eq_true rfl) ?_
  intro p_ e_ s_ m_ a_ b_ me_ c_ ls C0 hP hS hl
  have hx := C0.1
  have hb := C0.2.1
  have hts := C0.2.2.2.2.1
  have hD : zD E (zA E s_.heap.size) := C0.2.2.2.2.2.2.2.2
  have hA : ∀ q : Nat, s_.heap.size ≤ q → zA E s_.heap.size q := fun q h => Or.inr h
  refine z_gen (fun Q_ hQ_ => ?_)
  have hl : lv_has ls 4 [(0, .ref (E.1 92)), (1, .int athlete), (2, .int t), (3, .int u)] := hl
  refine lv_aload_n hx hb dX12_tube_0 rfl (lv_at hl 0 rfl) ?_
  refine lv_iload_n hx hb dX12_tube_1 rfl (lv_at hl 1 rfl) ?_
  refine z_Vi C0 hP hD hA hS (As := [.int athlete]) (rest := []) (k := 92) (c_X12_isAthlete l E _ na athlete ((congrFun (hM) _).trans (hrna)) (by omega)) (cwV 1 hts (zgV zbw mlRX12_136 imX12_isAthlete seX12_isAthlete iniRX12 coX12_isAthlete) rfl rfl rfl (by decide +kernel) ⟨Nat.le_of_ble_eq_true rfl, Nat.le_of_ble_eq_true rfl⟩) (zk_lt (rfl : zk 92 = 10) (by decide)) (zd_10 E (rfl : zk 92 = 10) _) rfl rfl rfl hl.1 rfl (Nat.le_of_ble_eq_true rfl) dX12_tube_2 ⟨Nat.zero_le _, Nat.zero_le _⟩ (fun r1 G1 H locs hw1 hP hS => ?_)
  rcases hw1 with ⟨rfl, rfl, ia, hia, rfl⟩ | ⟨rfl, rfl, hno1⟩
  · skip
    have hz_ia := zin_t hia (by omega)
    have hy_ia : zix (nI ia) = ia := zix_n (by omega)
    refine lv_if_ne (tgt := 14) hx hb dX12_tube_5 (by decide) (fun _ => ?_) (fun h_ => absurd h_ (by decide))
    refine lv_iload_n hx hb dX12_tube_14 rfl (lv_at hl 2 rfl) ?_
    refine lv_iconst (v := (2 : Int32)) hx hb dX12_tube_15 (by decide) ?_
    refine lv_icmp_lt (tgt := 23) hx hb dX12_tube_16 (by decide) (fun c_16 => ?_) (fun c_16 => ?_)
    · skip
      refine lv_aload_n hx hb dX12_tube_23 rfl (lv_at hl 0 rfl) ?_
      refine lv_bipush (v := (-4 : Int32)) hx hb dX12_tube_24 (by decide) ?_
      refine z_Vi C0 hP hD hA hS (As := [.int (-4 : Int32)]) (rest := []) (k := 92) (c_X12_no l E _ (-4 : Int32) 4 (by decide) (by decide)) (cwV 1 hts (zgV zbw mlRX12_56 imX12_no seX12_no iniRX12 coX12_no) rfl rfl rfl (by decide +kernel) ⟨Nat.le_of_ble_eq_true rfl, Nat.le_of_ble_eq_true rfl⟩) (zk_lt (rfl : zk 92 = 10) (by decide)) (zd_10 E (rfl : zk 92 = 10) _) rfl rfl rfl hl.1 rfl (Nat.le_of_ble_eq_true rfl) dX12_tube_26 ⟨Nat.zero_le _, Nat.zero_le _⟩ (fun r2 G2 H locs hw2 hP hS => ?_)
      obtain ⟨rfl, rfl⟩ := hw2
      subst hQ_
      exact z_iret C0 hP hS (v := (-4 : Int32)) (by have hfo := f_odds_4 (na := na) (t := t) (u := u) (v := 0) hz_ia (by first | exact Or.inl c_16 | exact Or.inr (Or.inl d_20)); exact zQm_of (k := 4) (by simp [A_tube, hz_ia, hy_ia, c_16, hfo]) (fun k hk => g1_n (by omega)) (g1_s _ _ _)) dX12_tube_29
    · skip
      refine lv_iload_n hx hb dX12_tube_19 rfl (lv_at hl 3 rfl) ?_
      refine lv_if_ge (tgt := 30) hx hb dX12_tube_20 (by decide) (fun c_20 => ?_) (fun c_20 => ?_)
      · skip
        have d_20 := Int32.not_lt.mpr c_20
        refine lv_iload_n hx hb dX12_tube_30 rfl (lv_at hl 2 rfl) ?_
        refine lv_bipush (v := (20 : Int32)) hx hb dX12_tube_31 (by decide) ?_
        refine lv_icmp_gt (tgt := 42) hx hb dX12_tube_33 (by decide) (fun c_33 => ?_) (fun c_33 => ?_)
        · skip
          refine lv_aload_n hx hb dX12_tube_42 rfl (lv_at hl 0 rfl) ?_
          refine lv_bipush (v := (-6 : Int32)) hx hb dX12_tube_43 (by decide) ?_
          refine z_Vi C0 hP hD hA hS (As := [.int (-6 : Int32)]) (rest := []) (k := 92) (c_X12_no l E _ (-6 : Int32) 6 (by decide) (by decide)) (cwV 1 hts (zgV zbw mlRX12_56 imX12_no seX12_no iniRX12 coX12_no) rfl rfl rfl (by decide +kernel) ⟨Nat.le_of_ble_eq_true rfl, Nat.le_of_ble_eq_true rfl⟩) (zk_lt (rfl : zk 92 = 10) (by decide)) (zd_10 E (rfl : zk 92 = 10) _) rfl rfl rfl hl.1 rfl (Nat.le_of_ble_eq_true rfl) dX12_tube_45 ⟨Nat.zero_le _, Nat.zero_le _⟩ (fun r3 G3 H locs hw3 hP hS => ?_)
          obtain ⟨rfl, rfl⟩ := hw3
          subst hQ_
          exact z_iret C0 hP hS (v := (-6 : Int32)) (by have hfo := f_odds_6 (na := na) (t := t) (u := u) (v := 0) hz_ia c_16 d_20 (fun q => absurd q (by decide)) (by first | exact Or.inl c_33 | exact Or.inr (Or.inl d_39)); exact zQm_of (k := 6) (by simp [A_tube, hz_ia, hy_ia, c_16, d_20, c_33, hfo]) (fun k hk => g1_n (by omega)) (g1_s _ _ _)) dX12_tube_48
        · skip
          refine lv_iload_n hx hb dX12_tube_36 rfl (lv_at hl 3 rfl) ?_
          refine lv_bipush (v := (99 : Int32)) hx hb dX12_tube_37 (by decide) ?_
          refine lv_icmp_le (tgt := 49) hx hb dX12_tube_39 (by decide) (fun c_39 => ?_) (fun c_39 => ?_)
          · skip
            have d_39 := Int32.not_lt.mpr c_39
            obtain ⟨hfo, ⟨tn, htn, rfl⟩, ⟨un, hun, rfl⟩, _⟩ := f_odds_0 (v := 0) hna hz_ia c_16 d_20 (fun q => absurd q (by decide)) c_33 d_39 (fun q => absurd q (by decide))
            have hy_tn : zix (nI tn) = tn := zix_n (by omega)
            have hy_un : zix (nI un) = un := zix_n (by omega)
            refine lv_bipush (v := (60 : Int32)) hx hb dX12_tube_49 (by decide) ?_
            refine lv_iload_n hx hb dX12_tube_51 rfl (lv_at hl 2 rfl) ?_
            refine z_imul hx hb (a := 60) (b := tn) (n := 60 * tn) dX12_tube_52 rfl rfl rfl ?_
            refine lv_bipush (v := (10 : Int32)) hx hb dX12_tube_53 (by decide) ?_
            refine lv_aload_n hx hb dX12_tube_55 rfl (lv_at hl 0 rfl) ?_
            refine z_Vi C0 hP hD hA hS (As := []) (rest := [.int (10 : Int32), .int (nI (60 * tn))]) (k := 92) (c_X12_ridesMany l E _ r n na (hM) hrn hrna hn10 hna) (cwV 0 hts (zgV zbw mlRX12_182 imX12_ridesMany seX12_ridesMany iniRX12 coX12_ridesMany) rfl rfl rfl (by decide +kernel) ⟨Nat.le_of_ble_eq_true rfl, Nat.le_of_ble_eq_true rfl⟩) (zk_lt (rfl : zk 92 = 10) (by decide)) (zd_10 E (rfl : zk 92 = 10) _) rfl rfl rfl hl.1 rfl (Nat.le_of_ble_eq_true rfl) dX12_tube_56 ⟨Nat.zero_le _, Nat.zero_le _⟩ (fun r4 G4 H locs hw4 hP hS => ?_)
            obtain ⟨hr4, rfl⟩ := hw4
            subst hr4
            have hq9 := q_rides_le r n
            have hf3 : un * q_rides r n ≤ 99 * 10 := Nat.mul_le_mul hun (by omega)
            refine z_imul hx hb (a := 10) (b := q_rides r n) (n := 10 * (q_rides r n)) dX12_tube_59 rfl rfl rfl ?_
            refine z_iadd hx hb (a := 60 * tn) (b := 10 * (q_rides r n)) (n := (60 * tn) + (10 * (q_rides r n))) dX12_tube_60 rfl rfl rfl ?_
            refine lv_iload_n hx hb dX12_tube_61 rfl (lv_at hl 3 rfl) ?_
            refine lv_aload_n hx hb dX12_tube_62 rfl (lv_at hl 0 rfl) ?_
            refine z_Vi C0 hP hD hA hS (As := []) (rest := [.int (nI un), .int (nI ((60 * tn) + (10 * (q_rides r n))))]) (k := 92) (c_X12_ridesMany l E _ r n na (hM) hrn hrna hn10 hna) (cwV 0 hts (zgV zbw mlRX12_182 imX12_ridesMany seX12_ridesMany iniRX12 coX12_ridesMany) rfl rfl rfl (by decide +kernel) ⟨Nat.le_of_ble_eq_true rfl, Nat.le_of_ble_eq_true rfl⟩) (zk_lt (rfl : zk 92 = 10) (by decide)) (zd_10 E (rfl : zk 92 = 10) _) rfl rfl rfl hl.1 rfl (Nat.le_of_ble_eq_true rfl) dX12_tube_63 ⟨Nat.zero_le _, Nat.zero_le _⟩ (fun r5 G5 H locs hw5 hP hS => ?_)
            obtain ⟨hr5, rfl⟩ := hw5
            subst hr5
            have hq9 := q_rides_le r n
            have hf3 : un * q_rides r n ≤ 99 * 10 := Nat.mul_le_mul hun (by omega)
            refine z_imul hx hb (a := un) (b := q_rides r n) (n := un * (q_rides r n)) dX12_tube_66 rfl rfl rfl ?_
            refine z_N_ge hx hb (a := (60 * tn) + (10 * (q_rides r n))) (b := un * (q_rides r n)) (tgt := 74) dX12_tube_67 rfl rfl (by omega) (by omega) (by decide) (fun c_67 => ?_) (fun c_67 => ?_)
            · skip
              refine lv_iconst (v := (0 : Int32)) hx hb dX12_tube_74 (by decide) ?_
              subst hQ_
              exact z_iret C0 hP hS (v := (0 : Int32)) (by exact zQm_of (k := 0) (by simp [A_tube, hz_ia, hy_ia, c_16, d_20, c_33, d_39, hfo, hy_tn, hy_un, c_67]) (fun k hk => rfl) (rfl)) dX12_tube_75
            · skip
              refine lv_iconst (v := (1 : Int32)) hx hb dX12_tube_70 (by decide) ?_
              refine lv_goto (tgt := 75) hx hb dX12_tube_71 (by decide) ?_
              subst hQ_
              exact z_iret C0 hP hS (v := (1 : Int32)) (by exact zQm_of (k := 0) (by simp [A_tube, hz_ia, hy_ia, c_16, d_20, c_33, d_39, hfo, hy_tn, hy_un, c_67]) (fun k hk => rfl) (rfl)) dX12_tube_75
          · skip
            have d_39 := Int32.not_le.mp c_39
            refine lv_aload_n hx hb dX12_tube_42 rfl (lv_at hl 0 rfl) ?_
            refine lv_bipush (v := (-6 : Int32)) hx hb dX12_tube_43 (by decide) ?_
            refine z_Vi C0 hP hD hA hS (As := [.int (-6 : Int32)]) (rest := []) (k := 92) (c_X12_no l E _ (-6 : Int32) 6 (by decide) (by decide)) (cwV 1 hts (zgV zbw mlRX12_56 imX12_no seX12_no iniRX12 coX12_no) rfl rfl rfl (by decide +kernel) ⟨Nat.le_of_ble_eq_true rfl, Nat.le_of_ble_eq_true rfl⟩) (zk_lt (rfl : zk 92 = 10) (by decide)) (zd_10 E (rfl : zk 92 = 10) _) rfl rfl rfl hl.1 rfl (Nat.le_of_ble_eq_true rfl) dX12_tube_45 ⟨Nat.zero_le _, Nat.zero_le _⟩ (fun r6 G6 H locs hw6 hP hS => ?_)
            obtain ⟨rfl, rfl⟩ := hw6
            subst hQ_
            exact z_iret C0 hP hS (v := (-6 : Int32)) (by have hfo := f_odds_6 (na := na) (t := t) (u := u) (v := 0) hz_ia c_16 d_20 (fun q => absurd q (by decide)) (by first | exact Or.inl c_33 | exact Or.inr (Or.inl d_39)); exact zQm_of (k := 6) (by simp [A_tube, hz_ia, hy_ia, c_16, d_20, c_33, d_39, hfo]) (fun k hk => g1_n (by omega)) (g1_s _ _ _)) dX12_tube_48
      · skip
        have d_20 := Int32.not_le.mp c_20
        refine lv_aload_n hx hb dX12_tube_23 rfl (lv_at hl 0 rfl) ?_
        refine lv_bipush (v := (-4 : Int32)) hx hb dX12_tube_24 (by decide) ?_
        refine z_Vi C0 hP hD hA hS (As := [.int (-4 : Int32)]) (rest := []) (k := 92) (c_X12_no l E _ (-4 : Int32) 4 (by decide) (by decide)) (cwV 1 hts (zgV zbw mlRX12_56 imX12_no seX12_no iniRX12 coX12_no) rfl rfl rfl (by decide +kernel) ⟨Nat.le_of_ble_eq_true rfl, Nat.le_of_ble_eq_true rfl⟩) (zk_lt (rfl : zk 92 = 10) (by decide)) (zd_10 E (rfl : zk 92 = 10) _) rfl rfl rfl hl.1 rfl (Nat.le_of_ble_eq_true rfl) dX12_tube_26 ⟨Nat.zero_le _, Nat.zero_le _⟩ (fun r7 G7 H locs hw7 hP hS => ?_)
        obtain ⟨rfl, rfl⟩ := hw7
        subst hQ_
        exact z_iret C0 hP hS (v := (-4 : Int32)) (by have hfo := f_odds_4 (na := na) (t := t) (u := u) (v := 0) hz_ia (by first | exact Or.inl c_16 | exact Or.inr (Or.inl d_20)); exact zQm_of (k := 4) (by simp [A_tube, hz_ia, hy_ia, c_16, d_20, hfo]) (fun k hk => g1_n (by omega)) (g1_s _ _ _)) dX12_tube_29
  · skip
    have hz_ia := zin_f (by omega) hno1
    refine lv_if_ne (tgt := 14) hx hb dX12_tube_5 (by decide) (fun h_ => absurd (by decide) h_) (fun _ => ?_)
    refine lv_aload_n hx hb dX12_tube_8 rfl (lv_at hl 0 rfl) ?_
    refine lv_iconst (v := (-1 : Int32)) hx hb dX12_tube_9 (by decide) ?_
    refine z_Vi C0 hP hD hA hS (As := [.int (-1 : Int32)]) (rest := []) (k := 92) (c_X12_no l E _ (-1 : Int32) 1 (by decide) (by decide)) (cwV 1 hts (zgV zbw mlRX12_56 imX12_no seX12_no iniRX12 coX12_no) rfl rfl rfl (by decide +kernel) ⟨Nat.le_of_ble_eq_true rfl, Nat.le_of_ble_eq_true rfl⟩) (zk_lt (rfl : zk 92 = 10) (by decide)) (zd_10 E (rfl : zk 92 = 10) _) rfl rfl rfl hl.1 rfl (Nat.le_of_ble_eq_true rfl) dX12_tube_10 ⟨Nat.zero_le _, Nat.zero_le _⟩ (fun r8 G8 H locs hw8 hP hS => ?_)
    obtain ⟨rfl, rfl⟩ := hw8
    subst hQ_
    exact z_iret C0 hP hS (v := (-1 : Int32)) (by have hfo := f_odds_1 (t := t) (u := u) (v := 0) hz_ia; exact zQm_of (k := 1) (by simp [A_tube, hz_ia, hfo]) (fun k hk => g1_n (by omega)) (g1_s _ _ _)) dX12_tube_13
set_option maxHeartbeats 4000000 in
set_option maxRecDepth 100000 in
theorem c_X12_gcd (l : Launch) (E : zE) (G : zG) (a b : Nat) (ha : a < 2 ^ 63) (hb2 : b < 2 ^ 63) : zMl l yX12_gcd wsX12_gcd ({ frames := 0, cells := 0, slots := 0, locals := 0 } : Room) E G [.long (lN a), .long (lN b)] (fun r1 G1 => lN (Nat.gcd a b) = r1 ∧ G = G1) := by
  refine zOf (cc := cX12_gcd) (nL := 10) (ret := (some .long)) RX12 (by decide) rfl rfl (Nat.le_of_ble_eq_true rfl) ?_
  intro p_ e_ s_ m_ a_ b_ me_ c_ ls C0 hP hS hl
  have hx := C0.1
  have hb := C0.2.1
  have hts := C0.2.2.2.2.1
  have hD : zD E (zA E s_.heap.size) := C0.2.2.2.2.2.2.2.2
  have hA : ∀ q : Nat, s_.heap.size ≤ q → zA E s_.heap.size q := fun q h => Or.inr h
  refine z_gen (fun Q_ hQ_ => ?_)
  have hl : lv_has ls 10 [(0, .long (lN a)), (2, .long (lN b))] := hl
  refine lv_lload_n hx hb dX12_gcd_0 rfl (lv_at hl 0 rfl) ?_
  refine lv_lstore (lv' := [(4, .long (lN a)), (0, .long (lN a)), (2, .long (lN b))]) hx hb dX12_gcd_1 hl (by decide) rfl (fun ls hl => ?_)
  refine lv_lload_n hx hb dX12_gcd_3 rfl (lv_at hl 2 rfl) ?_
  refine lv_lstore (lv' := [(6, .long (lN b)), (4, .long (lN a)), (0, .long (lN a)), (2, .long (lN b))]) hx hb dX12_gcd_4 hl (by decide) rfl (fun ls hl => ?_)
  have cut_6 : ∀ (fuel : Nat), ∀ (x y : Nat) (H : Heap) (locs : List Loc) (ls : Array Slot), (Nat.gcd x y = Nat.gcd a b ∧ x < 2 ^ 63 ∧ y < 2 ^ 63) → zP E G H → va_S (zA E s_.heap.size) s_.heap H locs → lv_has ls 10 [(0, .long (lN a)), (2, .long (lN b)), (4, .long (lN x)), (6, .long (lN y))] → y < fuel → W p_ l e_ ({ frames := 0, cells := 0, slots := 0, locals := 0 } : Room) s_ m_ a_ b_ me_ c_ H locs 0 0 Q_ (F0 m_ 6 ls []) := by
    intro fuel
    induction fuel with
    | zero =>
      intro x y  H locs ls hg hP hS hl hfu
      exact absurd hfu (Nat.not_lt_zero _)
    | succ fuel ih_6 =>
      intro x y  H locs ls hg hP hS hl hfu_6
      refine lv_lload hx hb dX12_gcd_6 (lv_at hl 3 rfl) ?_
      refine lv_lconst (v := (0 : Int64)) hx hb dX12_gcd_8 (by decide) ?_
      refine W.lcmp hx hb dX12_gcd_9 ?_
      refine lv_if_eq (tgt := 31) hx hb dX12_gcd_10 (by decide) (fun c_10 => ?_) (fun c_10 => ?_)
      · skip
        have hy0 := (lg_z hg.2.2).mp c_10
        refine lv_lload hx hb dX12_gcd_31 (lv_at hl 2 rfl) ?_
        subst hQ_
        exact z_lret C0 hP hS (v := (lN x)) (by refine ⟨?_, rfl⟩; rw [← hg.1, hy0, Nat.gcd_zero_right]) dX12_gcd_33
      · skip
        have hy0 : y ≠ 0 := fun q => c_10 ((lg_z hg.2.2).mpr q)
        refine lv_lload hx hb dX12_gcd_13 (lv_at hl 2 rfl) ?_
        refine lv_lload hx hb dX12_gcd_15 (lv_at hl 3 rfl) ?_
        refine lv_lrem hx hb dX12_gcd_17 (lN_nz (by omega) hg.2.2) ?_
        rw [show ((lN x) - (lN x) / (lN y) * (lN y)) = (lN (x % y)) from pk_lRem hg.2.1 (by omega) hg.2.2]
        refine lv_lstore (lv' := [(8, .long (lN (x % y))), (0, .long (lN a)), (2, .long (lN b)), (4, .long (lN x)), (6, .long (lN y))]) hx hb dX12_gcd_18 hl (by decide) rfl (fun ls hl => ?_)
        refine lv_lload hx hb dX12_gcd_20 (lv_at hl 4 rfl) ?_
        refine lv_lstore (lv' := [(4, .long (lN y)), (8, .long (lN (x % y))), (0, .long (lN a)), (2, .long (lN b)), (6, .long (lN y))]) hx hb dX12_gcd_22 hl (by decide) rfl (fun ls hl => ?_)
        refine lv_lload hx hb dX12_gcd_24 (lv_at hl 1 rfl) ?_
        refine lv_lstore (lv' := [(6, .long (lN (x % y))), (4, .long (lN y)), (8, .long (lN (x % y))), (0, .long (lN a)), (2, .long (lN b))]) hx hb dX12_gcd_26 hl (by decide) rfl (fun ls hl => ?_)
        refine lv_goto (tgt := 6) hx hb dX12_gcd_28 (by decide) ?_
        exact ih_6 y (x % y) _ _ _ (by exact ⟨by rw [← hg.1, Nat.gcd_comm x y, Nat.gcd_rec y x, Nat.gcd_comm], hg.2.2, by have := Nat.mod_lt x (show 0 < y by omega); omega⟩) hP hS (lv_sub hl [3, 4, 1, 0] rfl) (by have := Nat.mod_lt x (show 0 < y by omega); omega)
  exact cut_6 (_ + 1) a b _ _ _ (by exact ⟨rfl, ha, hb2⟩) hP hS (lv_sub hl [2, 3, 1, 0] rfl) (Nat.lt_succ_self _)
theorem mlRX12_174 : Cond.methodLink RX12 174 yX12_gcd ∈ zU := zU_m 1084 (by decide +kernel) rfl
theorem coX12_gcd : Cond.code yX12_gcd cX12_gcd 10 (some .long) ∈ zU := zU_m 1086 (by decide +kernel) rfl
theorem stX12_gcd : Cond.static yX12_gcd ∈ zU := zU_m 1085 (by decide +kernel) rfl
set_option maxHeartbeats 4000000 in
set_option maxRecDepth 100000 in
theorem c_X12_partOf (l : Launch) (E : zE) (G : zG) (a b : Nat) (part : Int32) (ha : a < 2 ^ 63) (hb0 : 0 < b) (hb2 : b < 2 ^ 44) (hpt : part = 0 ∨ part = 1) : zMl l yX12_partOf wsX12_partOf ({ frames := 1, cells := 0, slots := 0, locals := 29 } : Room) E G [.long (lN a), .long (lN b), .int part] (fun r1 G1 => q_part a b part = r1 ∧ G = G1) := by
  refine zOf (cc := cX12_partOf) (nL := 5) (ret := (some .long)) RX12 (by decide) rfl rfl (Nat.le_of_ble_eq_true rfl) ?_
  intro p_ e_ s_ m_ a_ b_ me_ c_ ls C0 hP hS hl
  have hx := C0.1
  have hb := C0.2.1
  have hts := C0.2.2.2.2.1
  have hD : zD E (zA E s_.heap.size) := C0.2.2.2.2.2.2.2.2
  have hA : ∀ q : Nat, s_.heap.size ≤ q → zA E s_.heap.size q := fun q h => Or.inr h
  have hq9 := q_part_c (part := part) hb0 ha (show b < 2 ^ 63 by omega) rfl
  refine z_gen (fun Q_ hQ_ => ?_)
  have hl : lv_has ls 5 [(0, .long (lN a)), (2, .long (lN b)), (4, .int part)] := hl
  refine lv_lload_n hx hb dX12_partOf_0 rfl (lv_at hl 0 rfl) ?_
  refine lv_lconst (v := (0 : Int64)) hx hb dX12_partOf_1 (by decide) ?_
  refine W.lcmp hx hb dX12_partOf_2 ?_
  refine lv_if_ne (tgt := 10) hx hb dX12_partOf_3 (by decide) (fun c_3 => ?_) (fun c_3 => ?_)
  · skip
    refine lv_iload hx hb dX12_partOf_10 (lv_at hl 2 rfl) ?_
    refine lv_if_ne (tgt := 19) hx hb dX12_partOf_12 (by decide) (fun c_12 => ?_) (fun c_12 => ?_)
    · skip
      refine lv_lload_n hx hb dX12_partOf_19 rfl (lv_at hl 1 rfl) ?_
      refine lv_lload_n hx hb dX12_partOf_20 rfl (lv_at hl 0 rfl) ?_
      refine lv_lload_n hx hb dX12_partOf_21 rfl (lv_at hl 1 rfl) ?_
      refine z_Sl C0 hP hD hA hS (As := [.long (lN a), .long (lN b)]) (rest := [.long (lN b)]) (c_X12_gcd l E _ a b ha (by omega)) (va_cwS 2 hts (zgS zbw mlRX12_174 stX12_gcd iniRX12 coX12_gcd) rfl rfl rfl (by decide +kernel) ⟨Nat.le_of_ble_eq_true rfl, Nat.le_of_ble_eq_true rfl⟩) rfl hl.1 rfl (Nat.le_of_ble_eq_true rfl) dX12_partOf_22 ⟨Nat.zero_le _, Nat.zero_le _⟩ (fun r1 G1 H locs hw1 hP hS => ?_)
      obtain ⟨hr1, rfl⟩ := hw1
      subst hr1
      refine lv_ldiv hx hb dX12_partOf_25 (hq9.1) ?_
      subst hQ_
      exact z_lret C0 hP hS (v := ((lN b) / (lN (Nat.gcd a b)))) (by first | exact ⟨(hq9.2.1 c_12).symm, rfl⟩ | exact ⟨(hq9.2.2 c_12).symm, rfl⟩) dX12_partOf_26
    · skip
      refine lv_lload_n hx hb dX12_partOf_15 rfl (lv_at hl 0 rfl) ?_
      refine lv_goto (tgt := 20) hx hb dX12_partOf_16 (by decide) ?_
      refine lv_lload_n hx hb dX12_partOf_20 rfl (lv_at hl 0 rfl) ?_
      refine lv_lload_n hx hb dX12_partOf_21 rfl (lv_at hl 1 rfl) ?_
      refine z_Sl C0 hP hD hA hS (As := [.long (lN a), .long (lN b)]) (rest := [.long (lN a)]) (c_X12_gcd l E _ a b ha (by omega)) (va_cwS 2 hts (zgS zbw mlRX12_174 stX12_gcd iniRX12 coX12_gcd) rfl rfl rfl (by decide +kernel) ⟨Nat.le_of_ble_eq_true rfl, Nat.le_of_ble_eq_true rfl⟩) rfl hl.1 rfl (Nat.le_of_ble_eq_true rfl) dX12_partOf_22 ⟨Nat.zero_le _, Nat.zero_le _⟩ (fun r2 G2 H locs hw2 hP hS => ?_)
      obtain ⟨hr2, rfl⟩ := hw2
      subst hr2
      refine lv_ldiv hx hb dX12_partOf_25 (hq9.1) ?_
      subst hQ_
      exact z_lret C0 hP hS (v := ((lN a) / (lN (Nat.gcd a b)))) (by first | exact ⟨(hq9.2.1 c_12).symm, rfl⟩ | exact ⟨(hq9.2.2 c_12).symm, rfl⟩) dX12_partOf_26
  · skip
    refine lv_iload hx hb dX12_partOf_6 (lv_at hl 2 rfl) ?_
    refine lv_i2l (v := part.toInt64) hx hb dX12_partOf_8 rfl ?_
    subst hQ_
    exact z_lret C0 hP hS (v := part.toInt64) (by have ha0 := (lg_z ha).mp c_3; exact ⟨by rw [ha0]; exact (q_part_0 hb0 (by omega) hpt).symm, rfl⟩) dX12_partOf_9
theorem mlRX12_178 : Cond.methodLink RX12 178 yX12_noWide ∈ zU := zU_m 1072 (by decide +kernel) rfl
theorem coX12_noWide : Cond.code yX12_noWide cX12_noWide 2 (some .long) ∈ zU := zU_m 1075 (by decide +kernel) rfl
theorem imX12_noWide : Cond.instanceMethod yX12_noWide ∈ zU := zU_m 1074 (by decide +kernel) rfl
theorem seX12_noWide : Cond.selects RX12 yX12_noWide yX12_noWide ∈ zU := zU_m 43 (by decide +kernel) rfl
theorem mlRX12_185 : Cond.methodLink RX12 185 yX12_partOf ∈ zU := zU_m 1081 (by decide +kernel) rfl
theorem coX12_partOf : Cond.code yX12_partOf cX12_partOf 5 (some .long) ∈ zU := zU_m 1083 (by decide +kernel) rfl
theorem stX12_partOf : Cond.static yX12_partOf ∈ zU := zU_m 1082 (by decide +kernel) rfl
set_option maxHeartbeats 4000000 in
set_option maxRecDepth 100000 in
theorem c_X12_mean (l : Launch) (E : zE) (G : zG) (r : Nat → Int32) (n na : Nat) (athlete t u part : Int32) (hM : G 93 = r) (hrn : r 0 = nI n) (hrna : r 1 = nI na) (hn10 : n ≤ 10) (hna : na ≤ 5) (hV : zVr r n na) : zMl l yX12_mean wsX12_mean ({ frames := 6, cells := 0, slots := 0, locals := 142 } : Room) E G [.ref (E.1 92), .int athlete, .int t, .int u, .int part] (fun r1 G1 => zLm (A_mean r n na athlete t u part) G r1 G1) := by
  refine zOf (cc := cX12_mean) (nL := 5) (ret := (some .long)) RX12 (by decide) rfl rfl (Nat.le_of_ble_eq_true rfl) ?_
  intro p_ e_ s_ m_ a_ b_ me_ c_ ls C0 hP hS hl
  have hx := C0.1
  have hb := C0.2.1
  have hts := C0.2.2.2.2.1
  have hD : zD E (zA E s_.heap.size) := C0.2.2.2.2.2.2.2.2
  have hA : ∀ q : Nat, s_.heap.size ≤ q → zA E s_.heap.size q := fun q h => Or.inr h
  refine z_gen (fun Q_ hQ_ => ?_)
  have hl : lv_has ls 5 [(0, .ref (E.1 92)), (1, .int athlete), (2, .int t), (3, .int u), (4, .int part)] := hl
  refine lv_aload_n hx hb dX12_mean_0 rfl (lv_at hl 0 rfl) ?_
  refine lv_iload_n hx hb dX12_mean_1 rfl (lv_at hl 1 rfl) ?_
  refine z_Vi C0 hP hD hA hS (As := [.int athlete]) (rest := []) (k := 92) (c_X12_isAthlete l E _ na athlete ((congrFun (hM) _).trans (hrna)) (by omega)) (cwV 1 hts (zgV zbw mlRX12_136 imX12_isAthlete seX12_isAthlete iniRX12 coX12_isAthlete) rfl rfl rfl (by decide +kernel) ⟨Nat.le_of_ble_eq_true rfl, Nat.le_of_ble_eq_true rfl⟩) (zk_lt (rfl : zk 92 = 10) (by decide)) (zd_10 E (rfl : zk 92 = 10) _) rfl rfl rfl hl.1 rfl (Nat.le_of_ble_eq_true rfl) dX12_mean_2 ⟨Nat.zero_le _, Nat.zero_le _⟩ (fun r1 G1 H locs hw1 hP hS => ?_)
  rcases hw1 with ⟨rfl, rfl, ia, hia, rfl⟩ | ⟨rfl, rfl, hno1⟩
  · skip
    have hz_ia := zin_t hia (by omega)
    have hy_ia : zix (nI ia) = ia := zix_n (by omega)
    refine lv_if_ne (tgt := 14) hx hb dX12_mean_5 (by decide) (fun _ => ?_) (fun h_ => absurd h_ (by decide))
    refine lv_iload_n hx hb dX12_mean_14 rfl (lv_at hl 2 rfl) ?_
    refine lv_iconst (v := (2 : Int32)) hx hb dX12_mean_15 (by decide) ?_
    refine lv_icmp_lt (tgt := 23) hx hb dX12_mean_16 (by decide) (fun c_16 => ?_) (fun c_16 => ?_)
    · skip
      refine lv_aload_n hx hb dX12_mean_23 rfl (lv_at hl 0 rfl) ?_
      refine lv_bipush (v := (-4 : Int32)) hx hb dX12_mean_24 (by decide) ?_
      refine z_Vl C0 hP hD hA hS (As := [.int (-4 : Int32)]) (rest := []) (k := 92) (c_X12_noWide l E _ (-4 : Int32) 4 (by decide) (by decide)) (cwV 1 hts (zgV zbw mlRX12_178 imX12_noWide seX12_noWide iniRX12 coX12_noWide) rfl rfl rfl (by decide +kernel) ⟨Nat.le_of_ble_eq_true rfl, Nat.le_of_ble_eq_true rfl⟩) (zk_lt (rfl : zk 92 = 10) (by decide)) (zd_10 E (rfl : zk 92 = 10) _) rfl rfl rfl hl.1 rfl (Nat.le_of_ble_eq_true rfl) dX12_mean_26 ⟨Nat.zero_le _, Nat.zero_le _⟩ (fun r2 G2 H locs hw2 hP hS => ?_)
      obtain ⟨rfl, rfl⟩ := hw2
      subst hQ_
      exact z_lret C0 hP hS (v := (4000000000000000000 - (-4 : Int32).toInt64)) (by have hfo := f_odds_4 (na := na) (t := t) (u := u) (v := 0) hz_ia (by first | exact Or.inl c_16 | exact Or.inr (Or.inl d_20)); exact zLm_of (k := 4) (by simp [A_mean, hz_ia, hy_ia, c_16, hfo, z_wide]) (fun k hk => g1_n (by omega)) (g1_s _ _ _)) dX12_mean_29
    · skip
      refine lv_iload_n hx hb dX12_mean_19 rfl (lv_at hl 3 rfl) ?_
      refine lv_if_ge (tgt := 30) hx hb dX12_mean_20 (by decide) (fun c_20 => ?_) (fun c_20 => ?_)
      · skip
        have d_20 := Int32.not_lt.mpr c_20
        refine lv_iload_n hx hb dX12_mean_30 rfl (lv_at hl 2 rfl) ?_
        refine lv_bipush (v := (20 : Int32)) hx hb dX12_mean_31 (by decide) ?_
        refine lv_icmp_gt (tgt := 42) hx hb dX12_mean_33 (by decide) (fun c_33 => ?_) (fun c_33 => ?_)
        · skip
          refine lv_aload_n hx hb dX12_mean_42 rfl (lv_at hl 0 rfl) ?_
          refine lv_bipush (v := (-6 : Int32)) hx hb dX12_mean_43 (by decide) ?_
          refine z_Vl C0 hP hD hA hS (As := [.int (-6 : Int32)]) (rest := []) (k := 92) (c_X12_noWide l E _ (-6 : Int32) 6 (by decide) (by decide)) (cwV 1 hts (zgV zbw mlRX12_178 imX12_noWide seX12_noWide iniRX12 coX12_noWide) rfl rfl rfl (by decide +kernel) ⟨Nat.le_of_ble_eq_true rfl, Nat.le_of_ble_eq_true rfl⟩) (zk_lt (rfl : zk 92 = 10) (by decide)) (zd_10 E (rfl : zk 92 = 10) _) rfl rfl rfl hl.1 rfl (Nat.le_of_ble_eq_true rfl) dX12_mean_45 ⟨Nat.zero_le _, Nat.zero_le _⟩ (fun r3 G3 H locs hw3 hP hS => ?_)
          obtain ⟨rfl, rfl⟩ := hw3
          subst hQ_
          exact z_lret C0 hP hS (v := (4000000000000000000 - (-6 : Int32).toInt64)) (by have hfo := f_odds_6 (na := na) (t := t) (u := u) (v := 0) hz_ia c_16 d_20 (fun q => absurd q (by decide)) (by first | exact Or.inl c_33 | exact Or.inr (Or.inl d_39)); exact zLm_of (k := 6) (by simp [A_mean, hz_ia, hy_ia, c_16, d_20, c_33, hfo, z_wide]) (fun k hk => g1_n (by omega)) (g1_s _ _ _)) dX12_mean_48
        · skip
          refine lv_iload_n hx hb dX12_mean_36 rfl (lv_at hl 3 rfl) ?_
          refine lv_bipush (v := (99 : Int32)) hx hb dX12_mean_37 (by decide) ?_
          refine lv_icmp_le (tgt := 49) hx hb dX12_mean_39 (by decide) (fun c_39 => ?_) (fun c_39 => ?_)
          · skip
            have d_39 := Int32.not_lt.mpr c_39
            obtain ⟨hfo, ⟨tn, htn, rfl⟩, ⟨un, hun, rfl⟩, _⟩ := f_odds_0 (v := 0) hna hz_ia c_16 d_20 (fun q => absurd q (by decide)) c_33 d_39 (fun q => absurd q (by decide))
            have hy_tn : zix (nI tn) = tn := zix_n (by omega)
            have hy_un : zix (nI un) = un := zix_n (by omega)
            refine lv_iload hx hb dX12_mean_49 (lv_at hl 4 rfl) ?_
            refine lv_iconst (v := (0 : Int32)) hx hb dX12_mean_51 (by decide) ?_
            refine lv_iconst (v := (1 : Int32)) hx hb dX12_mean_52 (by decide) ?_
            refine z_Si C0 hP hD hA hS (As := [.int part, .int (0 : Int32), .int (1 : Int32)]) (rest := []) (c_X12_isIn l E _ part (0 : Int32) (1 : Int32)) (va_cwS 3 hts (zgS zbw mlRX12_62 stX12_isIn iniRX12 coX12_isIn) rfl rfl rfl (by decide +kernel) ⟨Nat.le_of_ble_eq_true rfl, Nat.le_of_ble_eq_true rfl⟩) rfl hl.1 rfl (Nat.le_of_ble_eq_true rfl) dX12_mean_53 ⟨Nat.zero_le _, Nat.zero_le _⟩ (fun r4 G4 H locs hw4 hP hS => ?_)
            rcases hw4 with ⟨rfl, rfl, hi1_4, hi2_4⟩ | ⟨rfl, rfl, hi0_4⟩
            · skip
              have hi3_4 := Int32.not_lt.mpr hi1_4
              have hi4_4 := Int32.not_lt.mpr hi2_4
              have hpt := z_part_i hi1_4 hi2_4
              have hpb : z_part part = true := decide_eq_true hpt
              refine lv_if_ne (tgt := 66) hx hb dX12_mean_56 (by decide) (fun _ => ?_) (fun h_ => absurd h_ (by decide))
              refine lv_aload_n hx hb dX12_mean_66 rfl (lv_at hl 0 rfl) ?_
              refine lv_aload_n hx hb dX12_mean_67 rfl (lv_at hl 0 rfl) ?_
              refine z_get C0 hP (C := RX12) (T := TX12) (N := 21) (ci := 10) (index := 9) (k := 92) (ref := "WetSuitPedalsShoesModel") (zk_lt (rfl : zk 92 = 10) (by decide)) (zd_10 E (rfl : zk 92 = 10) _) rfl (zmi inU_12) 0 (by decide) (zm flRX12_9) rfl (v := .ref (E.1 93)) (rfl) dX12_mean_68 ?_
              refine lv_iload_n hx hb dX12_mean_71 rfl (lv_at hl 1 rfl) ?_
              refine z_Vi C0 hP hD hA hS (As := [.ref (E.1 93), .int (nI ia)]) (rest := []) (k := 92) (c_X12_finishOf l E _ 93 ia n z_lit_Arr102_93 (by omega) ((congrFun (hM) _).trans (hrn)) (by omega) (by omega)) (cwV 2 hts (zgV zbw mlRX12_156 imX12_finishOf seX12_finishOf iniRX12 coX12_finishOf) rfl rfl rfl (by decide +kernel) ⟨Nat.le_of_ble_eq_true rfl, Nat.le_of_ble_eq_true rfl⟩) (zk_lt (rfl : zk 92 = 10) (by decide)) (zd_10 E (rfl : zk 92 = 10) _) rfl rfl rfl hl.1 rfl (Nat.le_of_ble_eq_true rfl) dX12_mean_72 ⟨Nat.zero_le _, Nat.zero_le _⟩ (fun r5 G5 H locs hw5 hP hS => ?_)
              obtain ⟨hr5, hF5, hrow5⟩ := hw5
              obtain ⟨fn, hfn, hfe, hfc⟩ := q_fin_e hV hia hn10
              have hq9 := q_rides_le r n
              have hf1 : fn * tn ≤ 4000 * 20 := Nat.mul_le_mul hfn htn.2
              have hf2 : q_rides r n * un ≤ 10 * 99 := Nat.mul_le_mul (by omega) hun
              have hf3 : un * q_rides r n ≤ 99 * 10 := Nat.mul_le_mul hun (by omega)
              skip
              rw [show G 93 = r from hM] at hr5 hrow5
              subst hr5
              refine z_eqi (y := nI fn) hfe ?_
              refine lv_i2l (v := (lN fn)) hx hb dX12_mean_75 (nI_l (by omega)) ?_
              refine lv_iload_n hx hb dX12_mean_76 rfl (lv_at hl 2 rfl) ?_
              refine lv_i2l (v := (lN tn)) hx hb dX12_mean_77 (nI_l (by omega)) ?_
              refine lv_lmul hx hb dX12_mean_78 ?_
              rw [show ((lN fn) * (lN tn)) = (lN (fn * tn)) from lN_mul _ _]
              refine lv_aload_n hx hb dX12_mean_79 rfl (lv_at hl 0 rfl) ?_
              refine z_Vi C0 hP hD hA hS (As := []) (rest := [.long (lN (fn * tn))]) (k := 92) (c_X12_ridesMany l E _ r n na ((hF5 _ (by decide)).trans (hM)) hrn hrna hn10 hna) (cwV 0 hts (zgV zbw mlRX12_182 imX12_ridesMany seX12_ridesMany iniRX12 coX12_ridesMany) rfl rfl rfl (by decide +kernel) ⟨Nat.le_of_ble_eq_true rfl, Nat.le_of_ble_eq_true rfl⟩) (zk_lt (rfl : zk 92 = 10) (by decide)) (zd_10 E (rfl : zk 92 = 10) _) rfl rfl rfl hl.1 rfl (Nat.le_of_ble_eq_true rfl) dX12_mean_80 ⟨Nat.zero_le _, Nat.zero_le _⟩ (fun r6 G6 H locs hw6 hP hS => ?_)
              obtain ⟨hr6, rfl⟩ := hw6
              subst hr6
              refine lv_iload_n hx hb dX12_mean_83 rfl (lv_at hl 3 rfl) ?_
              refine z_imul hx hb (a := q_rides r n) (b := un) (n := (q_rides r n) * un) dX12_mean_84 rfl rfl rfl ?_
              refine lv_i2l (v := (lN (q_rides r n * un))) hx hb dX12_mean_85 (nI_l (by omega)) ?_
              refine lv_ladd hx hb dX12_mean_86 ?_
              rw [show ((lN (fn * tn)) + (lN (q_rides r n * un))) = (lN (fn * tn + q_rides r n * un)) from lN_add _ _]
              refine lv_iload_n hx hb dX12_mean_87 rfl (lv_at hl 2 rfl) ?_
              refine lv_i2l (v := (lN tn)) hx hb dX12_mean_88 (nI_l (by omega)) ?_
              refine lv_iload hx hb dX12_mean_89 (lv_at hl 4 rfl) ?_
              refine z_Sl C0 hP hD hA hS (As := [.long (lN (fn * tn + q_rides r n * un)), .long (lN tn), .int part]) (rest := []) (c_X12_partOf l E _ (fn * tn + q_rides r n * un) tn part (by omega) (by omega) (by omega) hpt) (va_cwS 3 hts (zgS zbw mlRX12_185 stX12_partOf iniRX12 coX12_partOf) rfl rfl rfl (by decide +kernel) ⟨Nat.le_of_ble_eq_true rfl, Nat.le_of_ble_eq_true rfl⟩) rfl hl.1 rfl (Nat.le_of_ble_eq_true rfl) dX12_mean_91 ⟨Nat.zero_le _, Nat.zero_le _⟩ (fun r7 G7 H locs hw7 hP hS => ?_)
              obtain ⟨hr7, rfl⟩ := hw7
              subst hr7
              subst hQ_
              exact z_lret C0 hP hS (v := (q_part (fn * tn + q_rides r n * un) tn part)) (by exact zLm_of (k := 0) (by simp [A_mean, hz_ia, hy_ia, c_16, d_20, c_33, d_39, hfo, hy_tn, hy_un, hi3_4, hi4_4, hpb, hfc, q_ml]) (fun k hk => hF5 k (by omega)) (hF5 _ (by decide))) dX12_mean_94
            · skip
              have hi5_4 := z_nin hi0_4
              have hpb := z_part_o hi0_4
              refine lv_if_ne (tgt := 66) hx hb dX12_mean_56 (by decide) (fun h_ => absurd (by decide) h_) (fun _ => ?_)
              refine lv_aload_n hx hb dX12_mean_59 rfl (lv_at hl 0 rfl) ?_
              refine lv_bipush (v := (-2 : Int32)) hx hb dX12_mean_60 (by decide) ?_
              refine z_Vl C0 hP hD hA hS (As := [.int (-2 : Int32)]) (rest := []) (k := 92) (c_X12_noWide l E _ (-2 : Int32) 2 (by decide) (by decide)) (cwV 1 hts (zgV zbw mlRX12_178 imX12_noWide seX12_noWide iniRX12 coX12_noWide) rfl rfl rfl (by decide +kernel) ⟨Nat.le_of_ble_eq_true rfl, Nat.le_of_ble_eq_true rfl⟩) (zk_lt (rfl : zk 92 = 10) (by decide)) (zd_10 E (rfl : zk 92 = 10) _) rfl rfl rfl hl.1 rfl (Nat.le_of_ble_eq_true rfl) dX12_mean_62 ⟨Nat.zero_le _, Nat.zero_le _⟩ (fun r8 G8 H locs hw8 hP hS => ?_)
              obtain ⟨rfl, rfl⟩ := hw8
              subst hQ_
              exact z_lret C0 hP hS (v := (4000000000000000000 - (-2 : Int32).toInt64)) (by exact zLm_of (k := 2) (by simp [A_mean, hz_ia, hy_ia, c_16, d_20, c_33, d_39, hfo, hy_tn, hy_un, hi5_4, hpb, z_wide]) (fun k hk => g1_n (by omega)) (g1_s _ _ _)) dX12_mean_65
          · skip
            have d_39 := Int32.not_le.mp c_39
            refine lv_aload_n hx hb dX12_mean_42 rfl (lv_at hl 0 rfl) ?_
            refine lv_bipush (v := (-6 : Int32)) hx hb dX12_mean_43 (by decide) ?_
            refine z_Vl C0 hP hD hA hS (As := [.int (-6 : Int32)]) (rest := []) (k := 92) (c_X12_noWide l E _ (-6 : Int32) 6 (by decide) (by decide)) (cwV 1 hts (zgV zbw mlRX12_178 imX12_noWide seX12_noWide iniRX12 coX12_noWide) rfl rfl rfl (by decide +kernel) ⟨Nat.le_of_ble_eq_true rfl, Nat.le_of_ble_eq_true rfl⟩) (zk_lt (rfl : zk 92 = 10) (by decide)) (zd_10 E (rfl : zk 92 = 10) _) rfl rfl rfl hl.1 rfl (Nat.le_of_ble_eq_true rfl) dX12_mean_45 ⟨Nat.zero_le _, Nat.zero_le _⟩ (fun r9 G9 H locs hw9 hP hS => ?_)
            obtain ⟨rfl, rfl⟩ := hw9
            subst hQ_
            exact z_lret C0 hP hS (v := (4000000000000000000 - (-6 : Int32).toInt64)) (by have hfo := f_odds_6 (na := na) (t := t) (u := u) (v := 0) hz_ia c_16 d_20 (fun q => absurd q (by decide)) (by first | exact Or.inl c_33 | exact Or.inr (Or.inl d_39)); exact zLm_of (k := 6) (by simp [A_mean, hz_ia, hy_ia, c_16, d_20, c_33, d_39, hfo, z_wide]) (fun k hk => g1_n (by omega)) (g1_s _ _ _)) dX12_mean_48
      · skip
        have d_20 := Int32.not_le.mp c_20
        refine lv_aload_n hx hb dX12_mean_23 rfl (lv_at hl 0 rfl) ?_
        refine lv_bipush (v := (-4 : Int32)) hx hb dX12_mean_24 (by decide) ?_
        refine z_Vl C0 hP hD hA hS (As := [.int (-4 : Int32)]) (rest := []) (k := 92) (c_X12_noWide l E _ (-4 : Int32) 4 (by decide) (by decide)) (cwV 1 hts (zgV zbw mlRX12_178 imX12_noWide seX12_noWide iniRX12 coX12_noWide) rfl rfl rfl (by decide +kernel) ⟨Nat.le_of_ble_eq_true rfl, Nat.le_of_ble_eq_true rfl⟩) (zk_lt (rfl : zk 92 = 10) (by decide)) (zd_10 E (rfl : zk 92 = 10) _) rfl rfl rfl hl.1 rfl (Nat.le_of_ble_eq_true rfl) dX12_mean_26 ⟨Nat.zero_le _, Nat.zero_le _⟩ (fun r10 G10 H locs hw10 hP hS => ?_)
        obtain ⟨rfl, rfl⟩ := hw10
        subst hQ_
        exact z_lret C0 hP hS (v := (4000000000000000000 - (-4 : Int32).toInt64)) (by have hfo := f_odds_4 (na := na) (t := t) (u := u) (v := 0) hz_ia (by first | exact Or.inl c_16 | exact Or.inr (Or.inl d_20)); exact zLm_of (k := 4) (by simp [A_mean, hz_ia, hy_ia, c_16, d_20, hfo, z_wide]) (fun k hk => g1_n (by omega)) (g1_s _ _ _)) dX12_mean_29
  · skip
    have hz_ia := zin_f (by omega) hno1
    refine lv_if_ne (tgt := 14) hx hb dX12_mean_5 (by decide) (fun h_ => absurd (by decide) h_) (fun _ => ?_)
    refine lv_aload_n hx hb dX12_mean_8 rfl (lv_at hl 0 rfl) ?_
    refine lv_iconst (v := (-1 : Int32)) hx hb dX12_mean_9 (by decide) ?_
    refine z_Vl C0 hP hD hA hS (As := [.int (-1 : Int32)]) (rest := []) (k := 92) (c_X12_noWide l E _ (-1 : Int32) 1 (by decide) (by decide)) (cwV 1 hts (zgV zbw mlRX12_178 imX12_noWide seX12_noWide iniRX12 coX12_noWide) rfl rfl rfl (by decide +kernel) ⟨Nat.le_of_ble_eq_true rfl, Nat.le_of_ble_eq_true rfl⟩) (zk_lt (rfl : zk 92 = 10) (by decide)) (zd_10 E (rfl : zk 92 = 10) _) rfl rfl rfl hl.1 rfl (Nat.le_of_ble_eq_true rfl) dX12_mean_10 ⟨Nat.zero_le _, Nat.zero_le _⟩ (fun r11 G11 H locs hw11 hP hS => ?_)
    obtain ⟨rfl, rfl⟩ := hw11
    subst hQ_
    exact z_lret C0 hP hS (v := (4000000000000000000 - (-1 : Int32).toInt64)) (by have hfo := f_odds_1 (t := t) (u := u) (v := 0) hz_ia; exact zLm_of (k := 1) (by simp [A_mean, hz_ia, hfo, z_wide]) (fun k hk => g1_n (by omega)) (g1_s _ _ _)) dX12_mean_13
set_option maxHeartbeats 4000000 in
set_option maxRecDepth 100000 in
theorem c_X12_puncture (l : Launch) (E : zE) (G : zG) (r : Nat → Int32) (n na : Nat) (athlete t u v part : Int32) (hM : G 93 = r) (hrn : r 0 = nI n) (hrna : r 1 = nI na) (hn10 : n ≤ 10) (hna : na ≤ 5) (hV : zVr r n na) : zMl l yX12_puncture wsX12_puncture ({ frames := 6, cells := 0, slots := 0, locals := 142 } : Room) E G [.ref (E.1 92), .int athlete, .int t, .int u, .int v, .int part] (fun r1 G1 => zLm (A_punc r n na athlete t u v part) G r1 G1) := by
  refine zOf (cc := cX12_puncture) (nL := 18) (ret := (some .long)) RX12 (by decide) rfl rfl (Nat.le_of_ble_eq_true rfl) ?_
  intro p_ e_ s_ m_ a_ b_ me_ c_ ls C0 hP hS hl
  have hx := C0.1
  have hb := C0.2.1
  have hts := C0.2.2.2.2.1
  have hD : zD E (zA E s_.heap.size) := C0.2.2.2.2.2.2.2.2
  have hA : ∀ q : Nat, s_.heap.size ≤ q → zA E s_.heap.size q := fun q h => Or.inr h
  refine z_gen (fun Q_ hQ_ => ?_)
  have hl : lv_has ls 18 [(0, .ref (E.1 92)), (1, .int athlete), (2, .int t), (3, .int u), (4, .int v), (5, .int part)] := hl
  refine lv_aload_n hx hb dX12_puncture_0 rfl (lv_at hl 0 rfl) ?_
  refine lv_iload_n hx hb dX12_puncture_1 rfl (lv_at hl 1 rfl) ?_
  refine z_Vi C0 hP hD hA hS (As := [.int athlete]) (rest := []) (k := 92) (c_X12_isAthlete l E _ na athlete ((congrFun (hM) _).trans (hrna)) (by omega)) (cwV 1 hts (zgV zbw mlRX12_136 imX12_isAthlete seX12_isAthlete iniRX12 coX12_isAthlete) rfl rfl rfl (by decide +kernel) ⟨Nat.le_of_ble_eq_true rfl, Nat.le_of_ble_eq_true rfl⟩) (zk_lt (rfl : zk 92 = 10) (by decide)) (zd_10 E (rfl : zk 92 = 10) _) rfl rfl rfl hl.1 rfl (Nat.le_of_ble_eq_true rfl) dX12_puncture_2 ⟨Nat.zero_le _, Nat.zero_le _⟩ (fun r1 G1 H locs hw1 hP hS => ?_)
  rcases hw1 with ⟨rfl, rfl, ia, hia, rfl⟩ | ⟨rfl, rfl, hno1⟩
  · skip
    have hz_ia := zin_t hia (by omega)
    have hy_ia : zix (nI ia) = ia := zix_n (by omega)
    refine lv_if_ne (tgt := 14) hx hb dX12_puncture_5 (by decide) (fun _ => ?_) (fun h_ => absurd h_ (by decide))
    refine lv_iload_n hx hb dX12_puncture_14 rfl (lv_at hl 2 rfl) ?_
    refine lv_iconst (v := (2 : Int32)) hx hb dX12_puncture_15 (by decide) ?_
    refine lv_icmp_lt (tgt := 28) hx hb dX12_puncture_16 (by decide) (fun c_16 => ?_) (fun c_16 => ?_)
    · skip
      refine lv_aload_n hx hb dX12_puncture_28 rfl (lv_at hl 0 rfl) ?_
      refine lv_bipush (v := (-4 : Int32)) hx hb dX12_puncture_29 (by decide) ?_
      refine z_Vl C0 hP hD hA hS (As := [.int (-4 : Int32)]) (rest := []) (k := 92) (c_X12_noWide l E _ (-4 : Int32) 4 (by decide) (by decide)) (cwV 1 hts (zgV zbw mlRX12_178 imX12_noWide seX12_noWide iniRX12 coX12_noWide) rfl rfl rfl (by decide +kernel) ⟨Nat.le_of_ble_eq_true rfl, Nat.le_of_ble_eq_true rfl⟩) (zk_lt (rfl : zk 92 = 10) (by decide)) (zd_10 E (rfl : zk 92 = 10) _) rfl rfl rfl hl.1 rfl (Nat.le_of_ble_eq_true rfl) dX12_puncture_31 ⟨Nat.zero_le _, Nat.zero_le _⟩ (fun r2 G2 H locs hw2 hP hS => ?_)
      obtain ⟨rfl, rfl⟩ := hw2
      subst hQ_
      exact z_lret C0 hP hS (v := (4000000000000000000 - (-4 : Int32).toInt64)) (by have hfo := f_odds_4 (na := na) (t := t) (u := u) (v := v) hz_ia (by first | exact Or.inl c_16 | exact Or.inr (Or.inl c_20) | exact Or.inr (Or.inr d_25)); exact zLm_of (k := 4) (by simp [A_punc, hz_ia, hy_ia, c_16, hfo, z_wide]) (fun k hk => g1_n (by omega)) (g1_s _ _ _)) dX12_puncture_34
    · skip
      refine lv_iload_n hx hb dX12_puncture_19 rfl (lv_at hl 3 rfl) ?_
      refine lv_if_lt (tgt := 28) hx hb dX12_puncture_20 (by decide) (fun c_20 => ?_) (fun c_20 => ?_)
      · skip
        refine lv_aload_n hx hb dX12_puncture_28 rfl (lv_at hl 0 rfl) ?_
        refine lv_bipush (v := (-4 : Int32)) hx hb dX12_puncture_29 (by decide) ?_
        refine z_Vl C0 hP hD hA hS (As := [.int (-4 : Int32)]) (rest := []) (k := 92) (c_X12_noWide l E _ (-4 : Int32) 4 (by decide) (by decide)) (cwV 1 hts (zgV zbw mlRX12_178 imX12_noWide seX12_noWide iniRX12 coX12_noWide) rfl rfl rfl (by decide +kernel) ⟨Nat.le_of_ble_eq_true rfl, Nat.le_of_ble_eq_true rfl⟩) (zk_lt (rfl : zk 92 = 10) (by decide)) (zd_10 E (rfl : zk 92 = 10) _) rfl rfl rfl hl.1 rfl (Nat.le_of_ble_eq_true rfl) dX12_puncture_31 ⟨Nat.zero_le _, Nat.zero_le _⟩ (fun r3 G3 H locs hw3 hP hS => ?_)
        obtain ⟨rfl, rfl⟩ := hw3
        subst hQ_
        exact z_lret C0 hP hS (v := (4000000000000000000 - (-4 : Int32).toInt64)) (by have hfo := f_odds_4 (na := na) (t := t) (u := u) (v := v) hz_ia (by first | exact Or.inl c_16 | exact Or.inr (Or.inl c_20) | exact Or.inr (Or.inr d_25)); exact zLm_of (k := 4) (by simp [A_punc, hz_ia, hy_ia, c_16, c_20, hfo, z_wide]) (fun k hk => g1_n (by omega)) (g1_s _ _ _)) dX12_puncture_34
      · skip
        refine lv_iload hx hb dX12_puncture_23 (lv_at hl 4 rfl) ?_
        refine lv_if_ge (tgt := 35) hx hb dX12_puncture_25 (by decide) (fun c_25 => ?_) (fun c_25 => ?_)
        · skip
          have d_25 := Int32.not_lt.mpr c_25
          refine lv_iload_n hx hb dX12_puncture_35 rfl (lv_at hl 2 rfl) ?_
          refine lv_bipush (v := (20 : Int32)) hx hb dX12_puncture_36 (by decide) ?_
          refine lv_icmp_gt (tgt := 55) hx hb dX12_puncture_38 (by decide) (fun c_38 => ?_) (fun c_38 => ?_)
          · skip
            refine lv_aload_n hx hb dX12_puncture_55 rfl (lv_at hl 0 rfl) ?_
            refine lv_bipush (v := (-6 : Int32)) hx hb dX12_puncture_56 (by decide) ?_
            refine z_Vl C0 hP hD hA hS (As := [.int (-6 : Int32)]) (rest := []) (k := 92) (c_X12_noWide l E _ (-6 : Int32) 6 (by decide) (by decide)) (cwV 1 hts (zgV zbw mlRX12_178 imX12_noWide seX12_noWide iniRX12 coX12_noWide) rfl rfl rfl (by decide +kernel) ⟨Nat.le_of_ble_eq_true rfl, Nat.le_of_ble_eq_true rfl⟩) (zk_lt (rfl : zk 92 = 10) (by decide)) (zd_10 E (rfl : zk 92 = 10) _) rfl rfl rfl hl.1 rfl (Nat.le_of_ble_eq_true rfl) dX12_puncture_58 ⟨Nat.zero_le _, Nat.zero_le _⟩ (fun r4 G4 H locs hw4 hP hS => ?_)
            obtain ⟨rfl, rfl⟩ := hw4
            subst hQ_
            exact z_lret C0 hP hS (v := (4000000000000000000 - (-6 : Int32).toInt64)) (by have hfo := f_odds_6 (na := na) (t := t) (u := u) (v := v) hz_ia c_16 c_20 d_25 (by first | exact Or.inl c_38 | exact Or.inr (Or.inl c_44) | exact Or.inr (Or.inr d_52)); exact zLm_of (k := 6) (by simp [A_punc, hz_ia, hy_ia, c_16, c_20, d_25, c_38, hfo, z_wide]) (fun k hk => g1_n (by omega)) (g1_s _ _ _)) dX12_puncture_61
          · skip
            refine lv_iload_n hx hb dX12_puncture_41 rfl (lv_at hl 3 rfl) ?_
            refine lv_bipush (v := (99 : Int32)) hx hb dX12_puncture_42 (by decide) ?_
            refine lv_icmp_gt (tgt := 55) hx hb dX12_puncture_44 (by decide) (fun c_44 => ?_) (fun c_44 => ?_)
            · skip
              refine lv_aload_n hx hb dX12_puncture_55 rfl (lv_at hl 0 rfl) ?_
              refine lv_bipush (v := (-6 : Int32)) hx hb dX12_puncture_56 (by decide) ?_
              refine z_Vl C0 hP hD hA hS (As := [.int (-6 : Int32)]) (rest := []) (k := 92) (c_X12_noWide l E _ (-6 : Int32) 6 (by decide) (by decide)) (cwV 1 hts (zgV zbw mlRX12_178 imX12_noWide seX12_noWide iniRX12 coX12_noWide) rfl rfl rfl (by decide +kernel) ⟨Nat.le_of_ble_eq_true rfl, Nat.le_of_ble_eq_true rfl⟩) (zk_lt (rfl : zk 92 = 10) (by decide)) (zd_10 E (rfl : zk 92 = 10) _) rfl rfl rfl hl.1 rfl (Nat.le_of_ble_eq_true rfl) dX12_puncture_58 ⟨Nat.zero_le _, Nat.zero_le _⟩ (fun r5 G5 H locs hw5 hP hS => ?_)
              obtain ⟨rfl, rfl⟩ := hw5
              subst hQ_
              exact z_lret C0 hP hS (v := (4000000000000000000 - (-6 : Int32).toInt64)) (by have hfo := f_odds_6 (na := na) (t := t) (u := u) (v := v) hz_ia c_16 c_20 d_25 (by first | exact Or.inl c_38 | exact Or.inr (Or.inl c_44) | exact Or.inr (Or.inr d_52)); exact zLm_of (k := 6) (by simp [A_punc, hz_ia, hy_ia, c_16, c_20, d_25, c_38, c_44, hfo, z_wide]) (fun k hk => g1_n (by omega)) (g1_s _ _ _)) dX12_puncture_61
            · skip
              refine lv_iload hx hb dX12_puncture_47 (lv_at hl 4 rfl) ?_
              refine lv_sipush (v := (999 : Int32)) hx hb dX12_puncture_49 (by decide) ?_
              refine lv_icmp_le (tgt := 62) hx hb dX12_puncture_52 (by decide) (fun c_52 => ?_) (fun c_52 => ?_)
              · skip
                have d_52 := Int32.not_lt.mpr c_52
                obtain ⟨hfo, ⟨tn, htn, rfl⟩, ⟨un, hun, rfl⟩, ⟨vn, hvn, rfl⟩⟩ := f_odds_0 hna hz_ia c_16 c_20 d_25 c_38 c_44 d_52
                have hy_tn : zix (nI tn) = tn := zix_n (by omega)
                have hy_un : zix (nI un) = un := zix_n (by omega)
                have hy_vn : zix (nI vn) = vn := zix_n (by omega)
                refine lv_iload hx hb dX12_puncture_62 (lv_at hl 5 rfl) ?_
                refine lv_iconst (v := (0 : Int32)) hx hb dX12_puncture_64 (by decide) ?_
                refine lv_iconst (v := (1 : Int32)) hx hb dX12_puncture_65 (by decide) ?_
                refine z_Si C0 hP hD hA hS (As := [.int part, .int (0 : Int32), .int (1 : Int32)]) (rest := []) (c_X12_isIn l E _ part (0 : Int32) (1 : Int32)) (va_cwS 3 hts (zgS zbw mlRX12_62 stX12_isIn iniRX12 coX12_isIn) rfl rfl rfl (by decide +kernel) ⟨Nat.le_of_ble_eq_true rfl, Nat.le_of_ble_eq_true rfl⟩) rfl hl.1 rfl (Nat.le_of_ble_eq_true rfl) dX12_puncture_66 ⟨Nat.zero_le _, Nat.zero_le _⟩ (fun r6 G6 H locs hw6 hP hS => ?_)
                rcases hw6 with ⟨rfl, rfl, hi1_6, hi2_6⟩ | ⟨rfl, rfl, hi0_6⟩
                · skip
                  have hi3_6 := Int32.not_lt.mpr hi1_6
                  have hi4_6 := Int32.not_lt.mpr hi2_6
                  have hpt := z_part_i hi1_6 hi2_6
                  have hpb : z_part part = true := decide_eq_true hpt
                  refine lv_if_ne (tgt := 79) hx hb dX12_puncture_69 (by decide) (fun _ => ?_) (fun h_ => absurd h_ (by decide))
                  refine lv_aload_n hx hb dX12_puncture_79 rfl (lv_at hl 0 rfl) ?_
                  refine lv_aload_n hx hb dX12_puncture_80 rfl (lv_at hl 0 rfl) ?_
                  refine z_get C0 hP (C := RX12) (T := TX12) (N := 21) (ci := 10) (index := 9) (k := 92) (ref := "WetSuitPedalsShoesModel") (zk_lt (rfl : zk 92 = 10) (by decide)) (zd_10 E (rfl : zk 92 = 10) _) rfl (zmi inU_12) 0 (by decide) (zm flRX12_9) rfl (v := .ref (E.1 93)) (rfl) dX12_puncture_81 ?_
                  refine lv_iload_n hx hb dX12_puncture_84 rfl (lv_at hl 1 rfl) ?_
                  refine z_Vi C0 hP hD hA hS (As := [.ref (E.1 93), .int (nI ia)]) (rest := []) (k := 92) (c_X12_finishOf l E _ 93 ia n z_lit_Arr102_93 (by omega) ((congrFun (hM) _).trans (hrn)) (by omega) (by omega)) (cwV 2 hts (zgV zbw mlRX12_156 imX12_finishOf seX12_finishOf iniRX12 coX12_finishOf) rfl rfl rfl (by decide +kernel) ⟨Nat.le_of_ble_eq_true rfl, Nat.le_of_ble_eq_true rfl⟩) (zk_lt (rfl : zk 92 = 10) (by decide)) (zd_10 E (rfl : zk 92 = 10) _) rfl rfl rfl hl.1 rfl (Nat.le_of_ble_eq_true rfl) dX12_puncture_85 ⟨Nat.zero_le _, Nat.zero_le _⟩ (fun r7 G7 H locs hw7 hP hS => ?_)
                  obtain ⟨hr7, hF7, hrow7⟩ := hw7
                  obtain ⟨fn, hfn, hfe, hfc⟩ := q_fin_e hV hia hn10
                  have hq9 := q_rides_le r n
                  skip
                  rw [show G 93 = r from hM] at hr7 hrow7
                  subst hr7
                  refine z_eqi (y := nI fn) hfe ?_
                  refine lv_istore (lv' := [(6, .int (nI fn)), (0, .ref (E.1 92)), (1, .int (nI ia)), (2, .int (nI tn)), (3, .int (nI un)), (4, .int (nI vn)), (5, .int part)]) hx hb dX12_puncture_88 hl (by decide) rfl (fun ls hl => ?_)
                  refine lv_aload_n hx hb dX12_puncture_90 rfl (lv_at hl 1 rfl) ?_
                  refine z_Vi C0 hP hD hA hS (As := []) (rest := []) (k := 92) (c_X12_ridesMany l E _ r n na ((hF7 _ (by decide)).trans (hM)) hrn hrna hn10 hna) (cwV 0 hts (zgV zbw mlRX12_182 imX12_ridesMany seX12_ridesMany iniRX12 coX12_ridesMany) rfl rfl rfl (by decide +kernel) ⟨Nat.le_of_ble_eq_true rfl, Nat.le_of_ble_eq_true rfl⟩) (zk_lt (rfl : zk 92 = 10) (by decide)) (zd_10 E (rfl : zk 92 = 10) _) rfl rfl rfl hl.1 rfl (Nat.le_of_ble_eq_true rfl) dX12_puncture_91 ⟨Nat.zero_le _, Nat.zero_le _⟩ (fun r8 G8 H locs hw8 hP hS => ?_)
                  obtain ⟨hr8, rfl⟩ := hw8
                  subst hr8
                  refine lv_istore (lv' := [(7, .int (nI (q_rides r n))), (6, .int (nI fn)), (0, .ref (E.1 92)), (1, .int (nI ia)), (2, .int (nI tn)), (3, .int (nI un)), (4, .int (nI vn)), (5, .int part)]) hx hb dX12_puncture_94 hl (by decide) rfl (fun ls hl => ?_)
                  refine lv_lconst (v := (0 : Int64)) hx hb dX12_puncture_96 (by decide) ?_
                  refine lv_lstore (lv' := [(8, .long (0 : Int64)), (7, .int (nI (q_rides r n))), (6, .int (nI fn)), (0, .ref (E.1 92)), (1, .int (nI ia)), (2, .int (nI tn)), (3, .int (nI un)), (4, .int (nI vn)), (5, .int part)]) hx hb dX12_puncture_97 hl (by decide) rfl (fun ls hl => ?_)
                  refine lv_lconst (v := (1 : Int64)) hx hb dX12_puncture_99 (by decide) ?_
                  refine lv_lstore (lv' := [(10, .long (1 : Int64)), (8, .long (0 : Int64)), (7, .int (nI (q_rides r n))), (6, .int (nI fn)), (0, .ref (E.1 92)), (1, .int (nI ia)), (2, .int (nI tn)), (3, .int (nI un)), (4, .int (nI vn)), (5, .int part)]) hx hb dX12_puncture_100 hl (by decide) rfl (fun ls hl => ?_)
                  refine lv_iconst (v := (0 : Int32)) hx hb dX12_puncture_102 (by decide) ?_
                  refine lv_istore (lv' := [(12, .int (0 : Int32)), (10, .long (1 : Int64)), (8, .long (0 : Int64)), (7, .int (nI (q_rides r n))), (6, .int (nI fn)), (0, .ref (E.1 92)), (1, .int (nI ia)), (2, .int (nI tn)), (3, .int (nI un)), (4, .int (nI vn)), (5, .int part)]) hx hb dX12_puncture_103 hl (by decide) rfl (fun ls hl => ?_)
                  have cut_105 : ∀ (fuel : Nat), ∀ (i : Nat) (bl : Int64) (H : Heap) (locs : List Loc) (ls : Array Slot), (i ≤ q_rides r n) → (bl = lN (tn ^ i)) → zP E G7 H → va_S (zA E s_.heap.size) s_.heap H locs → lv_has ls 18 [(0, .ref (E.1 92)), (1, .int (nI ia)), (2, .int (nI tn)), (3, .int (nI un)), (4, .int (nI vn)), (5, .int part), (6, .int (nI fn)), (7, .int (nI (q_rides r n))), (8, .long (0 : Int64)), (10, .long bl), (12, .int (nI i))] → q_rides r n - i < fuel → W p_ l e_ ({ frames := 6, cells := 0, slots := 0, locals := 142 } : Room) s_ m_ a_ b_ me_ c_ H locs 0 0 Q_ (F0 m_ 105 ls []) := by
                    intro fuel
                    induction fuel with
                    | zero =>
                      intro i  bl  H locs ls hin hbl hP hS hl hfu
                      exact absurd hfu (Nat.not_lt_zero _)
                    | succ fuel ih_105 =>
                      intro i  bl  H locs ls hin hbl hP hS hl hfu_105
                      refine lv_iload hx hb dX12_puncture_105 (lv_at hl 10 rfl) ?_
                      refine lv_iload hx hb dX12_puncture_107 (lv_at hl 7 rfl) ?_
                      refine z_N_ge hx hb (a := i) (b := q_rides r n) (tgt := 125) dX12_puncture_109 rfl rfl (by omega) (by omega) (by decide) (fun c_109 => ?_) (fun c_109 => ?_)
                      · skip
                        have h29 : 2 ^ q_rides r n ≤ 2 ^ 10 := Nat.pow_le_pow_right (by decide) (by omega)
                        refine lv_iconst (v := (0 : Int32)) hx hb dX12_puncture_125 (by decide) ?_
                        refine lv_istore (lv' := [(12, .int (0 : Int32)), (0, .ref (E.1 92)), (1, .int (nI ia)), (2, .int (nI tn)), (3, .int (nI un)), (4, .int (nI vn)), (5, .int part), (6, .int (nI fn)), (7, .int (nI (q_rides r n))), (8, .long (0 : Int64)), (10, .long bl)]) hx hb dX12_puncture_126 hl (by decide) rfl (fun ls hl => ?_)
                        have cut_128 : ∀ (fuel : Nat), ∀ (s : Nat) (ab : Int64) (H : Heap) (locs : List Loc) (ls : Array Slot), (s ≤ 2 ^ q_rides r n) → (ab = lN (o_a (q_rides r n) tn un vn fn s)) → zP E G7 H → va_S (zA E s_.heap.size) s_.heap H locs → lv_has ls 18 [(0, .ref (E.1 92)), (1, .int (nI ia)), (2, .int (nI tn)), (3, .int (nI un)), (4, .int (nI vn)), (5, .int part), (6, .int (nI fn)), (7, .int (nI (q_rides r n))), (8, .long ab), (10, .long bl), (12, .int (nI s))] → 2 ^ q_rides r n - s < fuel → W p_ l e_ ({ frames := 6, cells := 0, slots := 0, locals := 142 } : Room) s_ m_ a_ b_ me_ c_ H locs 0 0 Q_ (F0 m_ 128 ls []) := by
                          intro fuel
                          induction fuel with
                          | zero =>
                            intro s  ab  H locs ls hs ha hP hS hl hfu
                            exact absurd hfu (Nat.not_lt_zero _)
                          | succ fuel ih_128 =>
                            intro s  ab  H locs ls hs ha hP hS hl hfu_128
                            refine lv_iload hx hb dX12_puncture_128 (lv_at hl 10 rfl) ?_
                            refine lv_iconst (v := (1 : Int32)) hx hb dX12_puncture_130 (by decide) ?_
                            refine lv_iload hx hb dX12_puncture_131 (lv_at hl 7 rfl) ?_
                            refine lv_ishl hx hb dX12_puncture_133 ?_
                            refine z_eqi (y := (nI (2 ^ q_rides r n))) (z_shl1 (by omega)) ?_
                            refine z_N_ge hx hb (a := s) (b := 2 ^ q_rides r n) (tgt := 237) dX12_puncture_134 rfl rfl (by omega) (by omega) (by decide) (fun c_134 => ?_) (fun c_134 => ?_)
                            · skip
                              have ha9 : ab = lN (o_ways (q_rides r n) tn un vn fn) := ha.trans (congrArg lN (o_a_end (by omega)))
                              subst ha9
                              have hb9 : bl = lN (tn ^ q_rides r n) := by rw [hbl, show i = q_rides r n by omega]
                              subst hb9
                              refine lv_lload hx hb dX12_puncture_237 (lv_at hl 8 rfl) ?_
                              refine lv_lload hx hb dX12_puncture_239 (lv_at hl 9 rfl) ?_
                              refine lv_iload hx hb dX12_puncture_241 (lv_at hl 5 rfl) ?_
                              refine z_Sl C0 hP hD hA hS (As := [.long (lN (o_ways (q_rides r n) tn un vn fn)), .long (lN (tn ^ q_rides r n)), .int part]) (rest := []) (c_X12_partOf l E _ (o_ways (q_rides r n) tn un vn fn) (tn ^ q_rides r n) part (Nat.lt_trans (o_ways_b (by omega) htn.2) (by decide)) (o_pow_b (by omega) htn).1 (o_pow_b (by omega) htn).2 hpt) (va_cwS 3 hts (zgS zbw mlRX12_185 stX12_partOf iniRX12 coX12_partOf) rfl rfl rfl (by decide +kernel) ⟨Nat.le_of_ble_eq_true rfl, Nat.le_of_ble_eq_true rfl⟩) rfl hl.1 rfl (Nat.le_of_ble_eq_true rfl) dX12_puncture_243 ⟨Nat.zero_le _, Nat.zero_le _⟩ (fun r9 G9 H locs hw9 hP hS => ?_)
                              obtain ⟨hr9, rfl⟩ := hw9
                              subst hr9
                              subst hQ_
                              exact z_lret C0 hP hS (v := (q_part (o_ways (q_rides r n) tn un vn fn) (tn ^ q_rides r n) part)) (by exact zLm_of (k := 0) (by simp [A_punc, hz_ia, hy_ia, c_16, c_20, d_25, c_38, c_44, d_52, hfo, hy_tn, hy_un, hy_vn, hi3_6, hi4_6, hpb, c_109, c_134, hfc, q_ml]) (fun k hk => hF7 k (by omega)) (hF7 _ (by decide))) dX12_puncture_246
                            · skip
                              refine lv_lconst (v := (1 : Int64)) hx hb dX12_puncture_137 (by decide) ?_
                              refine lv_lstore (lv' := [(13, .long (1 : Int64)), (0, .ref (E.1 92)), (1, .int (nI ia)), (2, .int (nI tn)), (3, .int (nI un)), (4, .int (nI vn)), (5, .int part), (6, .int (nI fn)), (7, .int (nI (q_rides r n))), (8, .long ab), (10, .long bl), (12, .int (nI s))]) hx hb dX12_puncture_138 hl (by decide) rfl (fun ls hl => ?_)
                              refine lv_iconst (v := (0 : Int32)) hx hb dX12_puncture_140 (by decide) ?_
                              refine lv_istore (lv' := [(15, .int (0 : Int32)), (13, .long (1 : Int64)), (0, .ref (E.1 92)), (1, .int (nI ia)), (2, .int (nI tn)), (3, .int (nI un)), (4, .int (nI vn)), (5, .int part), (6, .int (nI fn)), (7, .int (nI (q_rides r n))), (8, .long ab), (10, .long bl), (12, .int (nI s))]) hx hb dX12_puncture_141 hl (by decide) rfl (fun ls hl => ?_)
                              refine lv_iconst (v := (0 : Int32)) hx hb dX12_puncture_143 (by decide) ?_
                              refine lv_istore (lv' := [(16, .int (0 : Int32)), (15, .int (0 : Int32)), (13, .long (1 : Int64)), (0, .ref (E.1 92)), (1, .int (nI ia)), (2, .int (nI tn)), (3, .int (nI un)), (4, .int (nI vn)), (5, .int part), (6, .int (nI fn)), (7, .int (nI (q_rides r n))), (8, .long ab), (10, .long bl), (12, .int (nI s))]) hx hb dX12_puncture_144 hl (by decide) rfl (fun ls hl => ?_)
                              have cut_146 : ∀ (fuel : Nat), ∀ (k mo : Nat) (wt : Int64) (H : Heap) (locs : List Loc) (ls : Array Slot), (k ≤ q_rides r n) → (wt = lN ((tn - 1) ^ (k - pcs s k))) → (mo = pcs s k * un) → zP E G7 H → va_S (zA E s_.heap.size) s_.heap H locs → lv_has ls 18 [(0, .ref (E.1 92)), (1, .int (nI ia)), (2, .int (nI tn)), (3, .int (nI un)), (4, .int (nI vn)), (5, .int part), (6, .int (nI fn)), (7, .int (nI (q_rides r n))), (8, .long ab), (10, .long bl), (12, .int (nI s)), (13, .long wt), (15, .int (nI mo)), (16, .int (nI k))] → q_rides r n - k < fuel → W p_ l e_ ({ frames := 6, cells := 0, slots := 0, locals := 142 } : Room) s_ m_ a_ b_ me_ c_ H locs 0 0 Q_ (F0 m_ 146 ls []) := by
                                intro fuel
                                induction fuel with
                                | zero =>
                                  intro k mo  wt  H locs ls hk hw hm hP hS hl hfu
                                  exact absurd hfu (Nat.not_lt_zero _)
                                | succ fuel ih_146 =>
                                  intro k mo  wt  H locs ls hk hw hm hP hS hl hfu_146
                                  refine lv_iload hx hb dX12_puncture_146 (lv_at hl 13 rfl) ?_
                                  refine lv_iload hx hb dX12_puncture_148 (lv_at hl 7 rfl) ?_
                                  refine z_N_ge hx hb (a := k) (b := q_rides r n) (tgt := 210) dX12_puncture_150 rfl rfl (by omega) (by omega) (by decide) (fun c_150 => ?_) (fun c_150 => ?_)
                                  · skip
                                    have hk9 : k = q_rides r n := by omega
                                    rw [hk9] at hw hm
                                    have hm9 : mo ≤ 10 * 99 := by rw [hm]; exact Nat.mul_le_mul (Nat.le_trans (pcs_le s (q_rides r n)) (by omega)) hun
                                    refine lv_lload hx hb dX12_puncture_210 (lv_at hl 8 rfl) ?_
                                    refine lv_iload hx hb dX12_puncture_212 (lv_at hl 6 rfl) ?_
                                    refine lv_iload hx hb dX12_puncture_214 (lv_at hl 12 rfl) ?_
                                    refine z_iadd hx hb (a := fn) (b := mo) (n := fn + mo) dX12_puncture_216 rfl rfl rfl ?_
                                    refine lv_iload hx hb dX12_puncture_217 (lv_at hl 4 rfl) ?_
                                    refine z_N_gt hx hb (a := fn + mo) (b := vn) (tgt := 227) dX12_puncture_219 rfl rfl (by omega) (by omega) (by decide) (fun c_219 => ?_) (fun c_219 => ?_)
                                    · skip
                                      refine lv_lconst (v := (0 : Int64)) hx hb dX12_puncture_227 (by decide) ?_
                                      refine lv_ladd hx hb dX12_puncture_228 ?_
                                      refine lv_lstore (lv' := [(8, .long (ab + (0 : Int64))), (0, .ref (E.1 92)), (1, .int (nI ia)), (2, .int (nI tn)), (3, .int (nI un)), (4, .int (nI vn)), (5, .int part), (6, .int (nI fn)), (7, .int (nI (q_rides r n))), (10, .long bl), (12, .int (nI s)), (13, .long wt), (15, .int (nI mo)), (16, .int (nI k))]) hx hb dX12_puncture_229 hl (by decide) rfl (fun ls hl => ?_)
                                      refine lv_iinc (v := (nI (s + 1))) (lv' := [(12, .int (nI (s + 1))), (8, .long (ab + (0 : Int64))), (0, .ref (E.1 92)), (1, .int (nI ia)), (2, .int (nI tn)), (3, .int (nI un)), (4, .int (nI vn)), (5, .int part), (6, .int (nI fn)), (7, .int (nI (q_rides r n))), (10, .long bl), (13, .long wt), (15, .int (nI mo)), (16, .int (nI k))]) hx hb dX12_puncture_231 hl (k := 10) rfl (z_inc (by decide)) (by decide) rfl (fun ls hl => ?_)
                                      refine lv_goto (tgt := 128) hx hb dX12_puncture_234 (by decide) ?_
                                      exact ih_128 (s + 1) (ab + (0 : Int64)) _ _ _ (by first | assumption | omega) (by exact o_a_n ha (by rw [← hm]; omega)) hP hS (lv_sub hl [2, 3, 4, 5, 6, 7, 8, 9, 1, 10, 0] rfl) (by omega)
                                    · skip
                                      refine lv_lload hx hb dX12_puncture_222 (lv_at hl 11 rfl) ?_
                                      refine lv_goto (tgt := 228) hx hb dX12_puncture_224 (by decide) ?_
                                      refine lv_ladd hx hb dX12_puncture_228 ?_
                                      refine lv_lstore (lv' := [(8, .long (ab + wt)), (0, .ref (E.1 92)), (1, .int (nI ia)), (2, .int (nI tn)), (3, .int (nI un)), (4, .int (nI vn)), (5, .int part), (6, .int (nI fn)), (7, .int (nI (q_rides r n))), (10, .long bl), (12, .int (nI s)), (13, .long wt), (15, .int (nI mo)), (16, .int (nI k))]) hx hb dX12_puncture_229 hl (by decide) rfl (fun ls hl => ?_)
                                      refine lv_iinc (v := (nI (s + 1))) (lv' := [(12, .int (nI (s + 1))), (8, .long (ab + wt)), (0, .ref (E.1 92)), (1, .int (nI ia)), (2, .int (nI tn)), (3, .int (nI un)), (4, .int (nI vn)), (5, .int part), (6, .int (nI fn)), (7, .int (nI (q_rides r n))), (10, .long bl), (13, .long wt), (15, .int (nI mo)), (16, .int (nI k))]) hx hb dX12_puncture_231 hl (k := 10) rfl (z_inc (by decide)) (by decide) rfl (fun ls hl => ?_)
                                      refine lv_goto (tgt := 128) hx hb dX12_puncture_234 (by decide) ?_
                                      exact ih_128 (s + 1) (ab + wt) _ _ _ (by first | assumption | omega) (by rw [hw]; exact o_a_y ha (by rw [← hm]; omega)) hP hS (lv_sub hl [2, 3, 4, 5, 6, 7, 8, 9, 1, 10, 0] rfl) (by omega)
                                  · skip
                                    refine lv_iload hx hb dX12_puncture_153 (lv_at hl 10 rfl) ?_
                                    refine lv_iload hx hb dX12_puncture_155 (lv_at hl 13 rfl) ?_
                                    refine lv_ishr hx hb dX12_puncture_157 ?_
                                    refine lv_iconst (v := (1 : Int32)) hx hb dX12_puncture_158 (by decide) ?_
                                    refine lv_iand hx hb dX12_puncture_159 ?_
                                    refine z_eqi (y := (nI (s / 2 ^ k % 2))) (z_bit (by omega) (by omega)) ?_
                                    refine lv_iconst (v := (1 : Int32)) hx hb dX12_puncture_160 (by decide) ?_
                                    refine z_N_ne hx hb (a := s / 2 ^ k % 2) (b := 1) (tgt := 168) dX12_puncture_161 rfl rfl (by omega) (by omega) (by decide) (fun c_161 => ?_) (fun c_161 => ?_)
                                    · skip
                                      refine lv_iconst (v := (0 : Int32)) hx hb dX12_puncture_168 (by decide) ?_
                                      refine lv_istore (lv' := [(17, .int (0 : Int32)), (0, .ref (E.1 92)), (1, .int (nI ia)), (2, .int (nI tn)), (3, .int (nI un)), (4, .int (nI vn)), (5, .int part), (6, .int (nI fn)), (7, .int (nI (q_rides r n))), (8, .long ab), (10, .long bl), (12, .int (nI s)), (13, .long wt), (15, .int (nI mo)), (16, .int (nI k))]) hx hb dX12_puncture_169 hl (by decide) rfl (fun ls hl => ?_)
                                      refine lv_lload hx hb dX12_puncture_171 (lv_at hl 12 rfl) ?_
                                      refine lv_iload hx hb dX12_puncture_173 (lv_at hl 0 rfl) ?_
                                      refine lv_if_eq (tgt := 182) hx hb dX12_puncture_175 (by decide) (fun _ => ?_) (fun h_ => absurd (by decide) h_)
                                      refine lv_iload_n hx hb dX12_puncture_182 rfl (lv_at hl 3 rfl) ?_
                                      refine lv_iconst (v := (1 : Int32)) hx hb dX12_puncture_183 (by decide) ?_
                                      refine z_isub hx hb (a := tn) (b := 1) (n := tn - 1) dX12_puncture_184 rfl rfl (by omega) (by omega) ?_
                                      refine lv_i2l (v := (lN (tn - 1))) hx hb dX12_puncture_185 (nI_l (by omega)) ?_
                                      refine lv_lmul hx hb dX12_puncture_186 ?_
                                      refine lv_lstore (lv' := [(13, .long (wt * (lN (tn - 1)))), (17, .int (0 : Int32)), (0, .ref (E.1 92)), (1, .int (nI ia)), (2, .int (nI tn)), (3, .int (nI un)), (4, .int (nI vn)), (5, .int part), (6, .int (nI fn)), (7, .int (nI (q_rides r n))), (8, .long ab), (10, .long bl), (12, .int (nI s)), (15, .int (nI mo)), (16, .int (nI k))]) hx hb dX12_puncture_187 hl (by decide) rfl (fun ls hl => ?_)
                                      refine lv_iload hx hb dX12_puncture_189 (lv_at hl 13 rfl) ?_
                                      refine lv_iload hx hb dX12_puncture_191 (lv_at hl 1 rfl) ?_
                                      refine lv_if_eq (tgt := 200) hx hb dX12_puncture_193 (by decide) (fun _ => ?_) (fun h_ => absurd (by decide) h_)
                                      refine lv_iconst (v := (0 : Int32)) hx hb dX12_puncture_200 (by decide) ?_
                                      refine z_iadd hx hb (a := mo) (b := 0) (n := mo + 0) dX12_puncture_201 rfl rfl rfl ?_
                                      refine lv_istore (lv' := [(15, .int (nI (mo + 0))), (13, .long (wt * (lN (tn - 1)))), (17, .int (0 : Int32)), (0, .ref (E.1 92)), (1, .int (nI ia)), (2, .int (nI tn)), (3, .int (nI un)), (4, .int (nI vn)), (5, .int part), (6, .int (nI fn)), (7, .int (nI (q_rides r n))), (8, .long ab), (10, .long bl), (12, .int (nI s)), (16, .int (nI k))]) hx hb dX12_puncture_202 hl (by decide) rfl (fun ls hl => ?_)
                                      refine lv_iinc (v := (nI (k + 1))) (lv' := [(16, .int (nI (k + 1))), (15, .int (nI (mo + 0))), (13, .long (wt * (lN (tn - 1)))), (17, .int (0 : Int32)), (0, .ref (E.1 92)), (1, .int (nI ia)), (2, .int (nI tn)), (3, .int (nI un)), (4, .int (nI vn)), (5, .int part), (6, .int (nI fn)), (7, .int (nI (q_rides r n))), (8, .long ab), (10, .long bl), (12, .int (nI s))]) hx hb dX12_puncture_204 hl (k := 14) rfl (z_inc (by decide)) (by decide) rfl (fun ls hl => ?_)
                                      refine lv_goto (tgt := 146) hx hb dX12_puncture_207 (by decide) ?_
                                      exact ih_146 (k + 1) (mo + 0) (wt * (lN (tn - 1))) _ _ _ (by first | assumption | omega) (by exact o_wn htn.1 hw (by omega)) (by exact pcs_n hm (by omega)) hP hS (lv_sub hl [4, 5, 6, 7, 8, 9, 10, 11, 12, 13, 14, 2, 1, 0] rfl) (by omega)
                                    · skip
                                      refine lv_iconst (v := (1 : Int32)) hx hb dX12_puncture_164 (by decide) ?_
                                      refine lv_goto (tgt := 169) hx hb dX12_puncture_165 (by decide) ?_
                                      refine lv_istore (lv' := [(17, .int (1 : Int32)), (0, .ref (E.1 92)), (1, .int (nI ia)), (2, .int (nI tn)), (3, .int (nI un)), (4, .int (nI vn)), (5, .int part), (6, .int (nI fn)), (7, .int (nI (q_rides r n))), (8, .long ab), (10, .long bl), (12, .int (nI s)), (13, .long wt), (15, .int (nI mo)), (16, .int (nI k))]) hx hb dX12_puncture_169 hl (by decide) rfl (fun ls hl => ?_)
                                      refine lv_lload hx hb dX12_puncture_171 (lv_at hl 12 rfl) ?_
                                      refine lv_iload hx hb dX12_puncture_173 (lv_at hl 0 rfl) ?_
                                      refine lv_if_eq (tgt := 182) hx hb dX12_puncture_175 (by decide) (fun h_ => absurd h_ (by decide)) (fun _ => ?_)
                                      refine lv_lconst (v := (1 : Int64)) hx hb dX12_puncture_178 (by decide) ?_
                                      refine lv_goto (tgt := 186) hx hb dX12_puncture_179 (by decide) ?_
                                      refine lv_lmul hx hb dX12_puncture_186 ?_
                                      refine lv_lstore (lv' := [(13, .long (wt * (1 : Int64))), (17, .int (1 : Int32)), (0, .ref (E.1 92)), (1, .int (nI ia)), (2, .int (nI tn)), (3, .int (nI un)), (4, .int (nI vn)), (5, .int part), (6, .int (nI fn)), (7, .int (nI (q_rides r n))), (8, .long ab), (10, .long bl), (12, .int (nI s)), (15, .int (nI mo)), (16, .int (nI k))]) hx hb dX12_puncture_187 hl (by decide) rfl (fun ls hl => ?_)
                                      refine lv_iload hx hb dX12_puncture_189 (lv_at hl 13 rfl) ?_
                                      refine lv_iload hx hb dX12_puncture_191 (lv_at hl 1 rfl) ?_
                                      refine lv_if_eq (tgt := 200) hx hb dX12_puncture_193 (by decide) (fun h_ => absurd h_ (by decide)) (fun _ => ?_)
                                      refine lv_iload_n hx hb dX12_puncture_196 rfl (lv_at hl 5 rfl) ?_
                                      refine lv_goto (tgt := 201) hx hb dX12_puncture_197 (by decide) ?_
                                      refine z_iadd hx hb (a := mo) (b := un) (n := mo + un) dX12_puncture_201 rfl rfl rfl ?_
                                      refine lv_istore (lv' := [(15, .int (nI (mo + un))), (13, .long (wt * (1 : Int64))), (17, .int (1 : Int32)), (0, .ref (E.1 92)), (1, .int (nI ia)), (2, .int (nI tn)), (3, .int (nI un)), (4, .int (nI vn)), (5, .int part), (6, .int (nI fn)), (7, .int (nI (q_rides r n))), (8, .long ab), (10, .long bl), (12, .int (nI s)), (16, .int (nI k))]) hx hb dX12_puncture_202 hl (by decide) rfl (fun ls hl => ?_)
                                      refine lv_iinc (v := (nI (k + 1))) (lv' := [(16, .int (nI (k + 1))), (15, .int (nI (mo + un))), (13, .long (wt * (1 : Int64))), (17, .int (1 : Int32)), (0, .ref (E.1 92)), (1, .int (nI ia)), (2, .int (nI tn)), (3, .int (nI un)), (4, .int (nI vn)), (5, .int part), (6, .int (nI fn)), (7, .int (nI (q_rides r n))), (8, .long ab), (10, .long bl), (12, .int (nI s))]) hx hb dX12_puncture_204 hl (k := 14) rfl (z_inc (by decide)) (by decide) rfl (fun ls hl => ?_)
                                      refine lv_goto (tgt := 146) hx hb dX12_puncture_207 (by decide) ?_
                                      exact ih_146 (k + 1) (mo + un) (wt * (1 : Int64)) _ _ _ (by first | assumption | omega) (by exact o_wy htn.1 hw (by omega)) (by exact pcs_y hm (by omega)) hP hS (lv_sub hl [4, 5, 6, 7, 8, 9, 10, 11, 12, 13, 14, 2, 1, 0] rfl) (by omega)
                              exact cut_146 (_ + 1) 0 0 (1 : Int64) _ _ _ (by first | assumption | omega) (by rfl) (by exact (Nat.zero_mul _).symm) hP hS (lv_sub hl [3, 4, 5, 6, 7, 8, 9, 10, 11, 12, 13, 2, 1, 0] rfl) (Nat.lt_succ_self _)
                        exact cut_128 (_ + 1) 0 (0 : Int64) _ _ _ (by exact Nat.zero_le _) (by rfl) hP hS (lv_sub hl [1, 2, 3, 4, 5, 6, 7, 8, 9, 10, 0] rfl) (Nat.lt_succ_self _)
                      · skip
                        refine lv_lload hx hb dX12_puncture_112 (lv_at hl 9 rfl) ?_
                        refine lv_iload_n hx hb dX12_puncture_114 rfl (lv_at hl 2 rfl) ?_
                        refine lv_i2l (v := (lN tn)) hx hb dX12_puncture_115 (nI_l (by omega)) ?_
                        refine lv_lmul hx hb dX12_puncture_116 ?_
                        refine lv_lstore (lv' := [(10, .long (bl * (lN tn))), (0, .ref (E.1 92)), (1, .int (nI ia)), (2, .int (nI tn)), (3, .int (nI un)), (4, .int (nI vn)), (5, .int part), (6, .int (nI fn)), (7, .int (nI (q_rides r n))), (8, .long (0 : Int64)), (12, .int (nI i))]) hx hb dX12_puncture_117 hl (by decide) rfl (fun ls hl => ?_)
                        refine lv_iinc (v := (nI (i + 1))) (lv' := [(12, .int (nI (i + 1))), (10, .long (bl * (lN tn))), (0, .ref (E.1 92)), (1, .int (nI ia)), (2, .int (nI tn)), (3, .int (nI un)), (4, .int (nI vn)), (5, .int part), (6, .int (nI fn)), (7, .int (nI (q_rides r n))), (8, .long (0 : Int64))]) hx hb dX12_puncture_119 hl (k := 10) rfl (z_inc (by decide)) (by decide) rfl (fun ls hl => ?_)
                        refine lv_goto (tgt := 105) hx hb dX12_puncture_122 (by decide) ?_
                        exact ih_105 (i + 1) (bl * (lN tn)) _ _ _ (by first | assumption | omega) (by rw [hbl, lN_mul, Nat.pow_succ]) hP hS (lv_sub hl [2, 3, 4, 5, 6, 7, 8, 9, 10, 1, 0] rfl) (by omega)
                  exact cut_105 (_ + 1) 0 (1 : Int64) _ _ _ (by first | assumption | omega) (by rfl) hP hS (lv_sub hl [5, 6, 7, 8, 9, 10, 4, 3, 2, 1, 0] rfl) (Nat.lt_succ_self _)
                · skip
                  have hi5_6 := z_nin hi0_6
                  have hpb := z_part_o hi0_6
                  refine lv_if_ne (tgt := 79) hx hb dX12_puncture_69 (by decide) (fun h_ => absurd (by decide) h_) (fun _ => ?_)
                  refine lv_aload_n hx hb dX12_puncture_72 rfl (lv_at hl 0 rfl) ?_
                  refine lv_bipush (v := (-2 : Int32)) hx hb dX12_puncture_73 (by decide) ?_
                  refine z_Vl C0 hP hD hA hS (As := [.int (-2 : Int32)]) (rest := []) (k := 92) (c_X12_noWide l E _ (-2 : Int32) 2 (by decide) (by decide)) (cwV 1 hts (zgV zbw mlRX12_178 imX12_noWide seX12_noWide iniRX12 coX12_noWide) rfl rfl rfl (by decide +kernel) ⟨Nat.le_of_ble_eq_true rfl, Nat.le_of_ble_eq_true rfl⟩) (zk_lt (rfl : zk 92 = 10) (by decide)) (zd_10 E (rfl : zk 92 = 10) _) rfl rfl rfl hl.1 rfl (Nat.le_of_ble_eq_true rfl) dX12_puncture_75 ⟨Nat.zero_le _, Nat.zero_le _⟩ (fun r10 G10 H locs hw10 hP hS => ?_)
                  obtain ⟨rfl, rfl⟩ := hw10
                  subst hQ_
                  exact z_lret C0 hP hS (v := (4000000000000000000 - (-2 : Int32).toInt64)) (by exact zLm_of (k := 2) (by simp [A_punc, hz_ia, hy_ia, c_16, c_20, d_25, c_38, c_44, d_52, hfo, hy_tn, hy_un, hy_vn, hi5_6, hpb, z_wide]) (fun k hk => g1_n (by omega)) (g1_s _ _ _)) dX12_puncture_78
              · skip
                have d_52 := Int32.not_le.mp c_52
                refine lv_aload_n hx hb dX12_puncture_55 rfl (lv_at hl 0 rfl) ?_
                refine lv_bipush (v := (-6 : Int32)) hx hb dX12_puncture_56 (by decide) ?_
                refine z_Vl C0 hP hD hA hS (As := [.int (-6 : Int32)]) (rest := []) (k := 92) (c_X12_noWide l E _ (-6 : Int32) 6 (by decide) (by decide)) (cwV 1 hts (zgV zbw mlRX12_178 imX12_noWide seX12_noWide iniRX12 coX12_noWide) rfl rfl rfl (by decide +kernel) ⟨Nat.le_of_ble_eq_true rfl, Nat.le_of_ble_eq_true rfl⟩) (zk_lt (rfl : zk 92 = 10) (by decide)) (zd_10 E (rfl : zk 92 = 10) _) rfl rfl rfl hl.1 rfl (Nat.le_of_ble_eq_true rfl) dX12_puncture_58 ⟨Nat.zero_le _, Nat.zero_le _⟩ (fun r11 G11 H locs hw11 hP hS => ?_)
                obtain ⟨rfl, rfl⟩ := hw11
                subst hQ_
                exact z_lret C0 hP hS (v := (4000000000000000000 - (-6 : Int32).toInt64)) (by have hfo := f_odds_6 (na := na) (t := t) (u := u) (v := v) hz_ia c_16 c_20 d_25 (by first | exact Or.inl c_38 | exact Or.inr (Or.inl c_44) | exact Or.inr (Or.inr d_52)); exact zLm_of (k := 6) (by simp [A_punc, hz_ia, hy_ia, c_16, c_20, d_25, c_38, c_44, d_52, hfo, z_wide]) (fun k hk => g1_n (by omega)) (g1_s _ _ _)) dX12_puncture_61
        · skip
          have d_25 := Int32.not_le.mp c_25
          refine lv_aload_n hx hb dX12_puncture_28 rfl (lv_at hl 0 rfl) ?_
          refine lv_bipush (v := (-4 : Int32)) hx hb dX12_puncture_29 (by decide) ?_
          refine z_Vl C0 hP hD hA hS (As := [.int (-4 : Int32)]) (rest := []) (k := 92) (c_X12_noWide l E _ (-4 : Int32) 4 (by decide) (by decide)) (cwV 1 hts (zgV zbw mlRX12_178 imX12_noWide seX12_noWide iniRX12 coX12_noWide) rfl rfl rfl (by decide +kernel) ⟨Nat.le_of_ble_eq_true rfl, Nat.le_of_ble_eq_true rfl⟩) (zk_lt (rfl : zk 92 = 10) (by decide)) (zd_10 E (rfl : zk 92 = 10) _) rfl rfl rfl hl.1 rfl (Nat.le_of_ble_eq_true rfl) dX12_puncture_31 ⟨Nat.zero_le _, Nat.zero_le _⟩ (fun r12 G12 H locs hw12 hP hS => ?_)
          obtain ⟨rfl, rfl⟩ := hw12
          subst hQ_
          exact z_lret C0 hP hS (v := (4000000000000000000 - (-4 : Int32).toInt64)) (by have hfo := f_odds_4 (na := na) (t := t) (u := u) (v := v) hz_ia (by first | exact Or.inl c_16 | exact Or.inr (Or.inl c_20) | exact Or.inr (Or.inr d_25)); exact zLm_of (k := 4) (by simp [A_punc, hz_ia, hy_ia, c_16, c_20, d_25, hfo, z_wide]) (fun k hk => g1_n (by omega)) (g1_s _ _ _)) dX12_puncture_34
  · skip
    have hz_ia := zin_f (by omega) hno1
    refine lv_if_ne (tgt := 14) hx hb dX12_puncture_5 (by decide) (fun h_ => absurd (by decide) h_) (fun _ => ?_)
    refine lv_aload_n hx hb dX12_puncture_8 rfl (lv_at hl 0 rfl) ?_
    refine lv_iconst (v := (-1 : Int32)) hx hb dX12_puncture_9 (by decide) ?_
    refine z_Vl C0 hP hD hA hS (As := [.int (-1 : Int32)]) (rest := []) (k := 92) (c_X12_noWide l E _ (-1 : Int32) 1 (by decide) (by decide)) (cwV 1 hts (zgV zbw mlRX12_178 imX12_noWide seX12_noWide iniRX12 coX12_noWide) rfl rfl rfl (by decide +kernel) ⟨Nat.le_of_ble_eq_true rfl, Nat.le_of_ble_eq_true rfl⟩) (zk_lt (rfl : zk 92 = 10) (by decide)) (zd_10 E (rfl : zk 92 = 10) _) rfl rfl rfl hl.1 rfl (Nat.le_of_ble_eq_true rfl) dX12_puncture_10 ⟨Nat.zero_le _, Nat.zero_le _⟩ (fun r13 G13 H locs hw13 hP hS => ?_)
    obtain ⟨rfl, rfl⟩ := hw13
    subst hQ_
    exact z_lret C0 hP hS (v := (4000000000000000000 - (-1 : Int32).toInt64)) (by have hfo := f_odds_1 (t := t) (u := u) (v := v) hz_ia; exact zLm_of (k := 1) (by simp [A_punc, hz_ia, hfo, z_wide]) (fun k hk => g1_n (by omega)) (g1_s _ _ _)) dX12_puncture_13
