/-! laid by wip/whole/vcg.py -/
theorem mlRX12_139 : Cond.methodLink RX12 139 yX12_isSection ∈ zU := zU_m 934 (by decide +kernel) rfl
theorem coX12_isSection : Cond.code yX12_isSection cX12_isSection 2 (some .boolean) ∈ zU := zU_m 937 (by decide +kernel) rfl
theorem imX12_isSection : Cond.instanceMethod yX12_isSection ∈ zU := zU_m 936 (by decide +kernel) rfl
theorem seX12_isSection : Cond.selects RX12 yX12_isSection yX12_isSection ∈ zU := zU_m 35 (by decide +kernel) rfl
theorem z_lit_Arr102_93 : zIs 93 tArr102 := by unfold zIs; decide +kernel
set_option maxHeartbeats 4000000 in
set_option maxRecDepth 100000 in
theorem c_X12_section (l : Launch) (E : zE) (G : zG) (r : Nat → Int32) (n na : Nat) (sect what : Int32) (hM : G 93 = r) (hrn : r 0 = nI n) (hrna : r 1 = nI na) (hn10 : n ≤ 10) (hna : na ≤ 5) (hkd : zKd r n) : zMi l yX12_section wsX12_section ({ frames := 2, cells := 0, slots := 0, locals := 43 } : Room) E G [.ref (E.1 92), .int sect, .int what] (fun r1 G1 => zQm (A_section r n sect what) G r1 G1) := by
  refine zOf (cc := cX12_section) (nL := 3) (ret := (some .int)) RX12 (by decide) rfl rfl (Nat.le_of_ble_eq_true rfl) ?_
  intro p_ e_ s_ m_ a_ b_ me_ c_ ls C0 hP hS hl
  have hx := C0.1
  have hb := C0.2.1
  have hts := C0.2.2.2.2.1
  have hD : zD E (zA E s_.heap.size) := C0.2.2.2.2.2.2.2.2
  have hA : ∀ q : Nat, s_.heap.size ≤ q → zA E s_.heap.size q := fun q h => Or.inr h
  refine z_gen (fun Q_ hQ_ => ?_)
  have hl : lv_has ls 3 [(0, .ref (E.1 92)), (1, .int sect), (2, .int what)] := hl
  refine lv_aload_n hx hb dX12_section_0 rfl (lv_at hl 0 rfl) ?_
  refine lv_iload_n hx hb dX12_section_1 rfl (lv_at hl 1 rfl) ?_
  refine z_Vi C0 hP hD hA hS (As := [.int sect]) (rest := []) (k := 92) (c_X12_isSection l E _ n sect ((congrFun (hM) _).trans (hrn)) (by omega)) (cwV 1 hts (zgV zbw mlRX12_139 imX12_isSection seX12_isSection iniRX12 coX12_isSection) rfl rfl rfl (by decide +kernel) ⟨Nat.le_of_ble_eq_true rfl, Nat.le_of_ble_eq_true rfl⟩) (zk_lt (rfl : zk 92 = 10) (by decide)) (zd_10 E (rfl : zk 92 = 10) _) rfl rfl rfl hl.1 rfl (Nat.le_of_ble_eq_true rfl) dX12_section_2 ⟨Nat.zero_le _, Nat.zero_le _⟩ (fun r1 G1 H locs hw1 hP hS => ?_)
  rcases hw1 with ⟨rfl, rfl, is, his, rfl⟩ | ⟨rfl, rfl, hno1⟩
  · skip
    have hz_is := zin_t his (by omega)
    have hy_is : zix (nI is) = is := zix_n (by omega)
    refine lv_if_ne (tgt := 14) hx hb dX12_section_5 (by decide) (fun _ => ?_) (fun h_ => absurd h_ (by decide))
    refine lv_iload_n hx hb dX12_section_14 rfl (lv_at hl 2 rfl) ?_
    refine lv_iconst (v := (0 : Int32)) hx hb dX12_section_15 (by decide) ?_
    refine lv_iconst (v := (2 : Int32)) hx hb dX12_section_16 (by decide) ?_
    refine z_Si C0 hP hD hA hS (As := [.int what, .int (0 : Int32), .int (2 : Int32)]) (rest := []) (c_X12_isIn l E _ what (0 : Int32) (2 : Int32)) (va_cwS 3 hts (zgS zbw mlRX12_62 stX12_isIn iniRX12 coX12_isIn) rfl rfl rfl (by decide +kernel) ⟨Nat.le_of_ble_eq_true rfl, Nat.le_of_ble_eq_true rfl⟩) rfl hl.1 rfl (Nat.le_of_ble_eq_true rfl) dX12_section_17 ⟨Nat.zero_le _, Nat.zero_le _⟩ (fun r2 G2 H locs hw2 hP hS => ?_)
    rcases hw2 with ⟨rfl, rfl, hi1_2, hi2_2⟩ | ⟨rfl, rfl, hi0_2⟩
    · skip
      have hi3_2 := Int32.not_lt.mpr hi1_2
      have hi4_2 := Int32.not_lt.mpr hi2_2
      obtain ⟨wh, hwh, rfl⟩ := z_rng (m := 3) hi3_2 hi2_2 (by decide) (by decide)
      have hy_wh : zix (nI wh) = wh := zix_n (by omega)
      have hne3 := z_ne3 hwh
      have hlt3 := z_lt3 hwh
      refine lv_if_eq (tgt := 36) hx hb dX12_section_20 (by decide) (fun h_ => absurd h_ (by decide)) (fun _ => ?_)
      refine lv_aload_n hx hb dX12_section_23 rfl (lv_at hl 0 rfl) ?_
      refine z_get C0 hP (C := RX12) (T := TX12) (N := 21) (ci := 10) (index := 9) (k := 92) (ref := "WetSuitPedalsShoesModel") (zk_lt (rfl : zk 92 = 10) (by decide)) (zd_10 E (rfl : zk 92 = 10) _) rfl (zmi inU_12) 0 (by decide) (zm flRX12_9) rfl (v := .ref (E.1 93)) (rfl) dX12_section_24 ?_
      refine lv_iload_n hx hb dX12_section_27 rfl (lv_at hl 1 rfl) ?_
      refine lv_iload_n hx hb dX12_section_28 rfl (lv_at hl 2 rfl) ?_
      refine z_Si C0 hP hD hA hS (As := [.int (nI is), .int (nI wh)]) (rest := [.ref (E.1 93)]) (c_X12_of l E _ is wh) (va_cwS 2 hts (zgS zbw mlRX12_66 stX12_of iniRX12 coX12_of) rfl rfl rfl (by decide +kernel) ⟨Nat.le_of_ble_eq_true rfl, Nat.le_of_ble_eq_true rfl⟩) rfl hl.1 rfl (Nat.le_of_ble_eq_true rfl) dX12_section_29 ⟨Nat.zero_le _, Nat.zero_le _⟩ (fun r3 G3 H locs hw3 hP hS => ?_)
      obtain ⟨hr3, rfl⟩ := hw3
      subst hr3
      refine z_eqi (y := (nI (2 + 3 * is + wh))) (congrArg nI (by omega)) ?_
      refine z_iald C0 hP (k := 93) (i := 2 + 3 * is + wh) (v := (r (2 + 3 * is + wh))) (rfl : zk 93 = 11) (Nat.lt_of_lt_of_eq (show 2 + 3 * is + wh < 102 by omega) (rfl : zl 93 = 102).symm) rfl dX12_section_32 (congrFun (hM) _) ?_
      refine lv_goto (tgt := 58) hx hb dX12_section_33 (by decide) ?_
      subst hQ_
      exact z_iret C0 hP hS (v := (r (2 + 3 * is + wh))) (by exact zQm_of (k := 0) (by simp [A_section, hz_is, hy_is, hi3_2, hi4_2, hy_wh, hne3, hlt3.1, hlt3.2, z_tk hkd his]) (fun k hk => rfl) (rfl)) dX12_section_58
    · skip
      have hi5_2 := z_nin hi0_2
      refine lv_if_eq (tgt := 36) hx hb dX12_section_20 (by decide) (fun _ => ?_) (fun h_ => absurd (by decide) h_)
      refine lv_iload_n hx hb dX12_section_36 rfl (lv_at hl 2 rfl) ?_
      refine lv_iconst (v := (3 : Int32)) hx hb dX12_section_37 (by decide) ?_
      refine lv_icmp_ne (tgt := 52) hx hb dX12_section_38 (by decide) (fun c_38 => ?_) (fun c_38 => ?_)
      · skip
        refine lv_aload_n hx hb dX12_section_52 rfl (lv_at hl 0 rfl) ?_
        refine lv_bipush (v := (-2 : Int32)) hx hb dX12_section_53 (by decide) ?_
        refine z_Vi C0 hP hD hA hS (As := [.int (-2 : Int32)]) (rest := []) (k := 92) (c_X12_no l E _ (-2 : Int32) 2 (by decide) (by decide)) (cwV 1 hts (zgV zbw mlRX12_56 imX12_no seX12_no iniRX12 coX12_no) rfl rfl rfl (by decide +kernel) ⟨Nat.le_of_ble_eq_true rfl, Nat.le_of_ble_eq_true rfl⟩) (zk_lt (rfl : zk 92 = 10) (by decide)) (zd_10 E (rfl : zk 92 = 10) _) rfl rfl rfl hl.1 rfl (Nat.le_of_ble_eq_true rfl) dX12_section_55 ⟨Nat.zero_le _, Nat.zero_le _⟩ (fun r4 G4 H locs hw4 hP hS => ?_)
        obtain ⟨rfl, rfl⟩ := hw4
        subst hQ_
        exact z_iret C0 hP hS (v := (-2 : Int32)) (by exact zQm_of (k := 2) (by simp [A_section, hz_is, hy_is, hi5_2, c_38]) (fun k hk => g1_n (by omega)) (g1_s _ _ _)) dX12_section_58
      · skip
        refine lv_aload_n hx hb dX12_section_41 rfl (lv_at hl 0 rfl) ?_
        refine z_get C0 hP (C := RX12) (T := TX12) (N := 21) (ci := 10) (index := 9) (k := 92) (ref := "WetSuitPedalsShoesModel") (zk_lt (rfl : zk 92 = 10) (by decide)) (zd_10 E (rfl : zk 92 = 10) _) rfl (zmi inU_12) 0 (by decide) (zm flRX12_9) rfl (v := .ref (E.1 93)) (rfl) dX12_section_42 ?_
        refine lv_iload_n hx hb dX12_section_45 rfl (lv_at hl 1 rfl) ?_
        refine z_Si C0 hP hD hA hS (As := [.ref (E.1 93), .int (nI is)]) (rest := []) (c_X12_takes l E _ 93 is z_lit_Arr102_93 (by omega)) (va_cwS 2 hts (zgS zbw mlRX12_81 stX12_takes iniRX12 coX12_takes) rfl rfl rfl (by decide +kernel) ⟨Nat.le_of_ble_eq_true rfl, Nat.le_of_ble_eq_true rfl⟩) rfl hl.1 rfl (Nat.le_of_ble_eq_true rfl) dX12_section_46 ⟨Nat.zero_le _, Nat.zero_le _⟩ (fun r5 G5 H locs hw5 hP hS => ?_)
        obtain ⟨hr5, rfl⟩ := hw5
        have hr5 : m_takes (r (2 + 3 * is)) = _ := (congrArg (fun z_ : Nat → Int32 => m_takes (z_ (2 + 3 * is))) (show G 93 = r from hM)).symm.trans hr5
        subst hr5
        refine lv_goto (tgt := 58) hx hb dX12_section_49 (by decide) ?_
        subst hQ_
        exact z_iret C0 hP hS (v := (m_takes (r (2 + 3 * is)))) (by exact zQm_of (k := 0) (by simp [A_section, hz_is, hy_is, hi5_2, c_38, z_tk hkd his]) (fun k hk => rfl) (rfl)) dX12_section_58
  · skip
    have hz_is := zin_f (by omega) hno1
    refine lv_if_ne (tgt := 14) hx hb dX12_section_5 (by decide) (fun h_ => absurd (by decide) h_) (fun _ => ?_)
    refine lv_aload_n hx hb dX12_section_8 rfl (lv_at hl 0 rfl) ?_
    refine lv_iconst (v := (-1 : Int32)) hx hb dX12_section_9 (by decide) ?_
    refine z_Vi C0 hP hD hA hS (As := [.int (-1 : Int32)]) (rest := []) (k := 92) (c_X12_no l E _ (-1 : Int32) 1 (by decide) (by decide)) (cwV 1 hts (zgV zbw mlRX12_56 imX12_no seX12_no iniRX12 coX12_no) rfl rfl rfl (by decide +kernel) ⟨Nat.le_of_ble_eq_true rfl, Nat.le_of_ble_eq_true rfl⟩) (zk_lt (rfl : zk 92 = 10) (by decide)) (zd_10 E (rfl : zk 92 = 10) _) rfl rfl rfl hl.1 rfl (Nat.le_of_ble_eq_true rfl) dX12_section_10 ⟨Nat.zero_le _, Nat.zero_le _⟩ (fun r6 G6 H locs hw6 hP hS => ?_)
    obtain ⟨rfl, rfl⟩ := hw6
    subst hQ_
    exact z_iret C0 hP hS (v := (-1 : Int32)) (by exact zQm_of (k := 1) (by simp [A_section, hz_is]) (fun k hk => g1_n (by omega)) (g1_s _ _ _)) dX12_section_13
theorem mlRX12_136 : Cond.methodLink RX12 136 yX12_isAthlete ∈ zU := zU_m 930 (by decide +kernel) rfl
theorem coX12_isAthlete : Cond.code yX12_isAthlete cX12_isAthlete 2 (some .boolean) ∈ zU := zU_m 933 (by decide +kernel) rfl
theorem imX12_isAthlete : Cond.instanceMethod yX12_isAthlete ∈ zU := zU_m 932 (by decide +kernel) rfl
theorem seX12_isAthlete : Cond.selects RX12 yX12_isAthlete yX12_isAthlete ∈ zU := zU_m 34 (by decide +kernel) rfl
set_option maxHeartbeats 4000000 in
set_option maxRecDepth 100000 in
theorem c_X12_athlete (l : Launch) (E : zE) (G : zG) (r : Nat → Int32) (n na : Nat) (athlete what : Int32) (hM : G 93 = r) (hrn : r 0 = nI n) (hrna : r 1 = nI na) (hn10 : n ≤ 10) (hna : na ≤ 5) : zMi l yX12_athlete wsX12_athlete ({ frames := 2, cells := 0, slots := 0, locals := 43 } : Room) E G [.ref (E.1 92), .int athlete, .int what] (fun r1 G1 => zQm (A_athlete r na athlete what) G r1 G1) := by
  refine zOf (cc := cX12_athlete) (nL := 3) (ret := (some .int)) RX12 (by decide) rfl rfl (Nat.le_of_ble_eq_true rfl) ?_
  intro p_ e_ s_ m_ a_ b_ me_ c_ ls C0 hP hS hl
  have hx := C0.1
  have hb := C0.2.1
  have hts := C0.2.2.2.2.1
  have hD : zD E (zA E s_.heap.size) := C0.2.2.2.2.2.2.2.2
  have hA : ∀ q : Nat, s_.heap.size ≤ q → zA E s_.heap.size q := fun q h => Or.inr h
  refine z_gen (fun Q_ hQ_ => ?_)
  have hl : lv_has ls 3 [(0, .ref (E.1 92)), (1, .int athlete), (2, .int what)] := hl
  refine lv_aload_n hx hb dX12_athlete_0 rfl (lv_at hl 0 rfl) ?_
  refine lv_iload_n hx hb dX12_athlete_1 rfl (lv_at hl 1 rfl) ?_
  refine z_Vi C0 hP hD hA hS (As := [.int athlete]) (rest := []) (k := 92) (c_X12_isAthlete l E _ na athlete ((congrFun (hM) _).trans (hrna)) (by omega)) (cwV 1 hts (zgV zbw mlRX12_136 imX12_isAthlete seX12_isAthlete iniRX12 coX12_isAthlete) rfl rfl rfl (by decide +kernel) ⟨Nat.le_of_ble_eq_true rfl, Nat.le_of_ble_eq_true rfl⟩) (zk_lt (rfl : zk 92 = 10) (by decide)) (zd_10 E (rfl : zk 92 = 10) _) rfl rfl rfl hl.1 rfl (Nat.le_of_ble_eq_true rfl) dX12_athlete_2 ⟨Nat.zero_le _, Nat.zero_le _⟩ (fun r1 G1 H locs hw1 hP hS => ?_)
  rcases hw1 with ⟨rfl, rfl, ia, hia, rfl⟩ | ⟨rfl, rfl, hno1⟩
  · skip
    have hz_ia := zin_t hia (by omega)
    have hy_ia : zix (nI ia) = ia := zix_n (by omega)
    refine lv_if_ne (tgt := 14) hx hb dX12_athlete_5 (by decide) (fun _ => ?_) (fun h_ => absurd h_ (by decide))
    refine lv_iload_n hx hb dX12_athlete_14 rfl (lv_at hl 2 rfl) ?_
    refine lv_iconst (v := (0 : Int32)) hx hb dX12_athlete_15 (by decide) ?_
    refine lv_iconst (v := (3 : Int32)) hx hb dX12_athlete_16 (by decide) ?_
    refine z_Si C0 hP hD hA hS (As := [.int what, .int (0 : Int32), .int (3 : Int32)]) (rest := []) (c_X12_isIn l E _ what (0 : Int32) (3 : Int32)) (va_cwS 3 hts (zgS zbw mlRX12_62 stX12_isIn iniRX12 coX12_isIn) rfl rfl rfl (by decide +kernel) ⟨Nat.le_of_ble_eq_true rfl, Nat.le_of_ble_eq_true rfl⟩) rfl hl.1 rfl (Nat.le_of_ble_eq_true rfl) dX12_athlete_17 ⟨Nat.zero_le _, Nat.zero_le _⟩ (fun r2 G2 H locs hw2 hP hS => ?_)
    rcases hw2 with ⟨rfl, rfl, hi1_2, hi2_2⟩ | ⟨rfl, rfl, hi0_2⟩
    · skip
      have hi3_2 := Int32.not_lt.mpr hi1_2
      have hi4_2 := Int32.not_lt.mpr hi2_2
      obtain ⟨wh, hwh, rfl⟩ := z_rng (m := 4) hi3_2 hi2_2 (by decide) (by decide)
      have hy_wh : zix (nI wh) = wh := zix_n (by omega)
      refine lv_if_eq (tgt := 36) hx hb dX12_athlete_20 (by decide) (fun h_ => absurd h_ (by decide)) (fun _ => ?_)
      refine lv_aload_n hx hb dX12_athlete_23 rfl (lv_at hl 0 rfl) ?_
      refine z_get C0 hP (C := RX12) (T := TX12) (N := 21) (ci := 10) (index := 9) (k := 92) (ref := "WetSuitPedalsShoesModel") (zk_lt (rfl : zk 92 = 10) (by decide)) (zd_10 E (rfl : zk 92 = 10) _) rfl (zmi inU_12) 0 (by decide) (zm flRX12_9) rfl (v := .ref (E.1 93)) (rfl) dX12_athlete_24 ?_
      refine lv_iload_n hx hb dX12_athlete_27 rfl (lv_at hl 1 rfl) ?_
      refine lv_iload_n hx hb dX12_athlete_28 rfl (lv_at hl 2 rfl) ?_
      refine z_Si C0 hP hD hA hS (As := [.int (nI ia), .int (nI wh)]) (rest := [.ref (E.1 93)]) (c_X12_athleteAt l E _ ia wh) (va_cwS 2 hts (zgS zbw mlRX12_70 stX12_athleteAt iniRX12 coX12_athleteAt) rfl rfl rfl (by decide +kernel) ⟨Nat.le_of_ble_eq_true rfl, Nat.le_of_ble_eq_true rfl⟩) rfl hl.1 rfl (Nat.le_of_ble_eq_true rfl) dX12_athlete_29 ⟨Nat.zero_le _, Nat.zero_le _⟩ (fun r3 G3 H locs hw3 hP hS => ?_)
      obtain ⟨hr3, rfl⟩ := hw3
      subst hr3
      refine z_eqi (y := (nI (32 + 4 * ia + wh))) (congrArg nI (by omega)) ?_
      refine z_iald C0 hP (k := 93) (i := 32 + 4 * ia + wh) (v := (r (32 + 4 * ia + wh))) (rfl : zk 93 = 11) (Nat.lt_of_lt_of_eq (show 32 + 4 * ia + wh < 102 by omega) (rfl : zl 93 = 102).symm) rfl dX12_athlete_32 (congrFun (hM) _) ?_
      refine lv_goto (tgt := 42) hx hb dX12_athlete_33 (by decide) ?_
      subst hQ_
      exact z_iret C0 hP hS (v := (r (32 + 4 * ia + wh))) (by exact zQm_of (k := 0) (by simp [A_athlete, hz_ia, hy_ia, hi3_2, hi4_2, hy_wh]) (fun k hk => rfl) (rfl)) dX12_athlete_42
    · skip
      have hi5_2 := z_nin hi0_2
      refine lv_if_eq (tgt := 36) hx hb dX12_athlete_20 (by decide) (fun _ => ?_) (fun h_ => absurd (by decide) h_)
      refine lv_aload_n hx hb dX12_athlete_36 rfl (lv_at hl 0 rfl) ?_
      refine lv_bipush (v := (-2 : Int32)) hx hb dX12_athlete_37 (by decide) ?_
      refine z_Vi C0 hP hD hA hS (As := [.int (-2 : Int32)]) (rest := []) (k := 92) (c_X12_no l E _ (-2 : Int32) 2 (by decide) (by decide)) (cwV 1 hts (zgV zbw mlRX12_56 imX12_no seX12_no iniRX12 coX12_no) rfl rfl rfl (by decide +kernel) ⟨Nat.le_of_ble_eq_true rfl, Nat.le_of_ble_eq_true rfl⟩) (zk_lt (rfl : zk 92 = 10) (by decide)) (zd_10 E (rfl : zk 92 = 10) _) rfl rfl rfl hl.1 rfl (Nat.le_of_ble_eq_true rfl) dX12_athlete_39 ⟨Nat.zero_le _, Nat.zero_le _⟩ (fun r4 G4 H locs hw4 hP hS => ?_)
      obtain ⟨rfl, rfl⟩ := hw4
      subst hQ_
      exact z_iret C0 hP hS (v := (-2 : Int32)) (by exact zQm_of (k := 2) (by simp [A_athlete, hz_ia, hy_ia, hi5_2]) (fun k hk => g1_n (by omega)) (g1_s _ _ _)) dX12_athlete_42
  · skip
    have hz_ia := zin_f (by omega) hno1
    refine lv_if_ne (tgt := 14) hx hb dX12_athlete_5 (by decide) (fun h_ => absurd (by decide) h_) (fun _ => ?_)
    refine lv_aload_n hx hb dX12_athlete_8 rfl (lv_at hl 0 rfl) ?_
    refine lv_iconst (v := (-1 : Int32)) hx hb dX12_athlete_9 (by decide) ?_
    refine z_Vi C0 hP hD hA hS (As := [.int (-1 : Int32)]) (rest := []) (k := 92) (c_X12_no l E _ (-1 : Int32) 1 (by decide) (by decide)) (cwV 1 hts (zgV zbw mlRX12_56 imX12_no seX12_no iniRX12 coX12_no) rfl rfl rfl (by decide +kernel) ⟨Nat.le_of_ble_eq_true rfl, Nat.le_of_ble_eq_true rfl⟩) (zk_lt (rfl : zk 92 = 10) (by decide)) (zd_10 E (rfl : zk 92 = 10) _) rfl rfl rfl hl.1 rfl (Nat.le_of_ble_eq_true rfl) dX12_athlete_10 ⟨Nat.zero_le _, Nat.zero_le _⟩ (fun r5 G5 H locs hw5 hP hS => ?_)
    obtain ⟨rfl, rfl⟩ := hw5
    subst hQ_
    exact z_iret C0 hP hS (v := (-1 : Int32)) (by exact zQm_of (k := 1) (by simp [A_athlete, hz_ia]) (fun k hk => g1_n (by omega)) (g1_s _ _ _)) dX12_athlete_13
set_option maxHeartbeats 4000000 in
set_option maxRecDepth 100000 in
theorem c_X12_tries (l : Launch) (E : zE) (G : zG) (r : Nat → Int32) (n na : Nat) (athlete sect : Int32) (hM : G 93 = r) (hrn : r 0 = nI n) (hrna : r 1 = nI na) (hn10 : n ≤ 10) (hna : na ≤ 5) : zMi l yX12_tries wsX12_tries ({ frames := 2, cells := 0, slots := 0, locals := 43 } : Room) E G [.ref (E.1 92), .int athlete, .int sect] (fun r1 G1 => zQm (A_tries r n na athlete sect) G r1 G1) := by
  refine zOf (cc := cX12_tries) (nL := 3) (ret := (some .int)) RX12 (by decide) rfl rfl (Nat.le_of_ble_eq_true rfl) ?_
  intro p_ e_ s_ m_ a_ b_ me_ c_ ls C0 hP hS hl
  have hx := C0.1
  have hb := C0.2.1
  have hts := C0.2.2.2.2.1
  have hD : zD E (zA E s_.heap.size) := C0.2.2.2.2.2.2.2.2
  have hA : ∀ q : Nat, s_.heap.size ≤ q → zA E s_.heap.size q := fun q h => Or.inr h
  refine z_gen (fun Q_ hQ_ => ?_)
  have hl : lv_has ls 3 [(0, .ref (E.1 92)), (1, .int athlete), (2, .int sect)] := hl
  refine lv_aload_n hx hb dX12_tries_0 rfl (lv_at hl 0 rfl) ?_
  refine lv_iload_n hx hb dX12_tries_1 rfl (lv_at hl 1 rfl) ?_
  refine z_Vi C0 hP hD hA hS (As := [.int athlete]) (rest := []) (k := 92) (c_X12_isAthlete l E _ na athlete ((congrFun (hM) _).trans (hrna)) (by omega)) (cwV 1 hts (zgV zbw mlRX12_136 imX12_isAthlete seX12_isAthlete iniRX12 coX12_isAthlete) rfl rfl rfl (by decide +kernel) ⟨Nat.le_of_ble_eq_true rfl, Nat.le_of_ble_eq_true rfl⟩) (zk_lt (rfl : zk 92 = 10) (by decide)) (zd_10 E (rfl : zk 92 = 10) _) rfl rfl rfl hl.1 rfl (Nat.le_of_ble_eq_true rfl) dX12_tries_2 ⟨Nat.zero_le _, Nat.zero_le _⟩ (fun r1 G1 H locs hw1 hP hS => ?_)
  rcases hw1 with ⟨rfl, rfl, ia, hia, rfl⟩ | ⟨rfl, rfl, hno1⟩
  · skip
    have hz_ia := zin_t hia (by omega)
    have hy_ia : zix (nI ia) = ia := zix_n (by omega)
    refine lv_if_eq (tgt := 29) hx hb dX12_tries_5 (by decide) (fun h_ => absurd h_ (by decide)) (fun _ => ?_)
    refine lv_aload_n hx hb dX12_tries_8 rfl (lv_at hl 0 rfl) ?_
    refine lv_iload_n hx hb dX12_tries_9 rfl (lv_at hl 2 rfl) ?_
    refine z_Vi C0 hP hD hA hS (As := [.int sect]) (rest := []) (k := 92) (c_X12_isSection l E _ n sect ((congrFun (hM) _).trans (hrn)) (by omega)) (cwV 1 hts (zgV zbw mlRX12_139 imX12_isSection seX12_isSection iniRX12 coX12_isSection) rfl rfl rfl (by decide +kernel) ⟨Nat.le_of_ble_eq_true rfl, Nat.le_of_ble_eq_true rfl⟩) (zk_lt (rfl : zk 92 = 10) (by decide)) (zd_10 E (rfl : zk 92 = 10) _) rfl rfl rfl hl.1 rfl (Nat.le_of_ble_eq_true rfl) dX12_tries_10 ⟨Nat.zero_le _, Nat.zero_le _⟩ (fun r2 G2 H locs hw2 hP hS => ?_)
    rcases hw2 with ⟨rfl, rfl, is, his, rfl⟩ | ⟨rfl, rfl, hno2⟩
    · skip
      have hz_is := zin_t his (by omega)
      have hy_is : zix (nI is) = is := zix_n (by omega)
      refine lv_if_eq (tgt := 29) hx hb dX12_tries_13 (by decide) (fun h_ => absurd h_ (by decide)) (fun _ => ?_)
      refine lv_aload_n hx hb dX12_tries_16 rfl (lv_at hl 0 rfl) ?_
      refine z_get C0 hP (C := RX12) (T := TX12) (N := 21) (ci := 10) (index := 9) (k := 92) (ref := "WetSuitPedalsShoesModel") (zk_lt (rfl : zk 92 = 10) (by decide)) (zd_10 E (rfl : zk 92 = 10) _) rfl (zmi inU_12) 0 (by decide) (zm flRX12_9) rfl (v := .ref (E.1 93)) (rfl) dX12_tries_17 ?_
      refine lv_iload_n hx hb dX12_tries_20 rfl (lv_at hl 1 rfl) ?_
      refine lv_iload_n hx hb dX12_tries_21 rfl (lv_at hl 2 rfl) ?_
      refine z_Si C0 hP hD hA hS (As := [.int (nI ia), .int (nI is)]) (rest := [.ref (E.1 93)]) (c_X12_tried l E _ ia is) (va_cwS 2 hts (zgS zbw mlRX12_91 stX12_tried iniRX12 coX12_tried) rfl rfl rfl (by decide +kernel) ⟨Nat.le_of_ble_eq_true rfl, Nat.le_of_ble_eq_true rfl⟩) rfl hl.1 rfl (Nat.le_of_ble_eq_true rfl) dX12_tries_22 ⟨Nat.zero_le _, Nat.zero_le _⟩ (fun r3 G3 H locs hw3 hP hS => ?_)
      obtain ⟨hr3, rfl⟩ := hw3
      subst hr3
      refine z_eqi (y := (nI (52 + 10 * ia + is))) (congrArg nI (by omega)) ?_
      refine z_iald C0 hP (k := 93) (i := 52 + 10 * ia + is) (v := (r (52 + 10 * ia + is))) (rfl : zk 93 = 11) (Nat.lt_of_lt_of_eq (show 52 + 10 * ia + is < 102 by omega) (rfl : zl 93 = 102).symm) rfl dX12_tries_25 (congrFun (hM) _) ?_
      refine lv_goto (tgt := 34) hx hb dX12_tries_26 (by decide) ?_
      subst hQ_
      exact z_iret C0 hP hS (v := (r (52 + 10 * ia + is))) (by exact zQm_of (k := 0) (by simp [A_tries, hz_ia, hy_ia, hz_is, hy_is]) (fun k hk => rfl) (rfl)) dX12_tries_34
    · skip
      have hz_is := zin_f (by omega) hno2
      refine lv_if_eq (tgt := 29) hx hb dX12_tries_13 (by decide) (fun _ => ?_) (fun h_ => absurd (by decide) h_)
      refine lv_aload_n hx hb dX12_tries_29 rfl (lv_at hl 0 rfl) ?_
      refine lv_iconst (v := (-1 : Int32)) hx hb dX12_tries_30 (by decide) ?_
      refine z_Vi C0 hP hD hA hS (As := [.int (-1 : Int32)]) (rest := []) (k := 92) (c_X12_no l E _ (-1 : Int32) 1 (by decide) (by decide)) (cwV 1 hts (zgV zbw mlRX12_56 imX12_no seX12_no iniRX12 coX12_no) rfl rfl rfl (by decide +kernel) ⟨Nat.le_of_ble_eq_true rfl, Nat.le_of_ble_eq_true rfl⟩) (zk_lt (rfl : zk 92 = 10) (by decide)) (zd_10 E (rfl : zk 92 = 10) _) rfl rfl rfl hl.1 rfl (Nat.le_of_ble_eq_true rfl) dX12_tries_31 ⟨Nat.zero_le _, Nat.zero_le _⟩ (fun r4 G4 H locs hw4 hP hS => ?_)
      obtain ⟨rfl, rfl⟩ := hw4
      subst hQ_
      exact z_iret C0 hP hS (v := (-1 : Int32)) (by exact zQm_of (k := 1) (by simp [A_tries, hz_ia, hy_ia, hz_is]) (fun k hk => g1_n (by omega)) (g1_s _ _ _)) dX12_tries_34
  · skip
    have hz_ia := zin_f (by omega) hno1
    refine lv_if_eq (tgt := 29) hx hb dX12_tries_5 (by decide) (fun _ => ?_) (fun h_ => absurd (by decide) h_)
    refine lv_aload_n hx hb dX12_tries_29 rfl (lv_at hl 0 rfl) ?_
    refine lv_iconst (v := (-1 : Int32)) hx hb dX12_tries_30 (by decide) ?_
    refine z_Vi C0 hP hD hA hS (As := [.int (-1 : Int32)]) (rest := []) (k := 92) (c_X12_no l E _ (-1 : Int32) 1 (by decide) (by decide)) (cwV 1 hts (zgV zbw mlRX12_56 imX12_no seX12_no iniRX12 coX12_no) rfl rfl rfl (by decide +kernel) ⟨Nat.le_of_ble_eq_true rfl, Nat.le_of_ble_eq_true rfl⟩) (zk_lt (rfl : zk 92 = 10) (by decide)) (zd_10 E (rfl : zk 92 = 10) _) rfl rfl rfl hl.1 rfl (Nat.le_of_ble_eq_true rfl) dX12_tries_31 ⟨Nat.zero_le _, Nat.zero_le _⟩ (fun r5 G5 H locs hw5 hP hS => ?_)
    obtain ⟨rfl, rfl⟩ := hw5
    subst hQ_
    exact z_iret C0 hP hS (v := (-1 : Int32)) (by exact zQm_of (k := 1) (by simp [A_tries, hz_ia]) (fun k hk => g1_n (by omega)) (g1_s _ _ _)) dX12_tries_34
