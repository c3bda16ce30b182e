/-! laid by wip/whole/vcg.py -/
set_option maxHeartbeats 4000000 in
set_option maxRecDepth 100000 in
theorem c_X12_turn (l : Launch) (E : zE) (G : zG) (r : Nat → Int32) (n na : Nat) (sect kind figure : Int32) (hM : G 93 = r) (hrn : r 0 = nI n) (hrna : r 1 = nI na) (hn10 : n ≤ 10) (hna : na ≤ 5) : zMi l yX12_turn wsX12_turn ({ frames := 2, cells := 0, slots := 0, locals := 43 } : Room) E G [.ref (E.1 92), .int sect, .int kind, .int figure] (fun r1 G1 => zUm (U_turn r n sect kind figure) G r1 G1) := by
  refine zOf (cc := cX12_turn) (nL := 5) (ret := (some .int)) RX12 (by decide) rfl rfl (Nat.le_of_ble_eq_true rfl) ?_
  intro p_ e_ s_ m_ a_ b_ me_ c_ ls C0 hP hS hl
  have hx := C0.1
  have hb := C0.2.1
  have hts := C0.2.2.2.2.1
  have hD : zD E (zA E s_.heap.size) := C0.2.2.2.2.2.2.2.2
  have hA : ∀ q : Nat, s_.heap.size ≤ q → zA E s_.heap.size q := fun q h => Or.inr h
  refine z_gen (fun Q_ hQ_ => ?_)
  have hl : lv_has ls 5 [(0, .ref (E.1 92)), (1, .int sect), (2, .int kind), (3, .int figure)] := hl
  refine lv_aload_n hx hb dX12_turn_0 rfl (lv_at hl 0 rfl) ?_
  refine lv_iload_n hx hb dX12_turn_1 rfl (lv_at hl 1 rfl) ?_
  refine z_Vi C0 hP hD hA hS (As := [.int sect]) (rest := []) (k := 92) (c_X12_isSection l E _ n sect ((congrFun (hM) _).trans (hrn)) (by omega)) (cwV 1 hts (zgV zbw mlRX12_139 imX12_isSection seX12_isSection iniRX12 coX12_isSection) rfl rfl rfl (by decide +kernel) ⟨Nat.le_of_ble_eq_true rfl, Nat.le_of_ble_eq_true rfl⟩) (zk_lt (rfl : zk 92 = 10) (by decide)) (zd_10 E (rfl : zk 92 = 10) _) rfl rfl rfl hl.1 rfl (Nat.le_of_ble_eq_true rfl) dX12_turn_2 ⟨Nat.zero_le _, Nat.zero_le _⟩ (fun r1 G1 H locs hw1 hP hS => ?_)
  rcases hw1 with ⟨rfl, rfl, is, his, rfl⟩ | ⟨rfl, rfl, hno1⟩
  · skip
    have hz_is := zin_t his (by omega)
    have hy_is : zix (nI is) = is := zix_n (by omega)
    refine lv_if_ne (tgt := 14) hx hb dX12_turn_5 (by decide) (fun _ => ?_) (fun h_ => absurd h_ (by decide))
    refine lv_iload_n hx hb dX12_turn_14 rfl (lv_at hl 2 rfl) ?_
    refine lv_iconst (v := (0 : Int32)) hx hb dX12_turn_15 (by decide) ?_
    refine lv_bipush (v := (6 : Int32)) hx hb dX12_turn_16 (by decide) ?_
    refine z_Si C0 hP hD hA hS (As := [.int kind, .int (0 : Int32), .int (6 : Int32)]) (rest := []) (c_X12_isIn l E _ kind (0 : Int32) (6 : Int32)) (va_cwS 3 hts (zgS zbw mlRX12_62 stX12_isIn iniRX12 coX12_isIn) rfl rfl rfl (by decide +kernel) ⟨Nat.le_of_ble_eq_true rfl, Nat.le_of_ble_eq_true rfl⟩) rfl hl.1 rfl (Nat.le_of_ble_eq_true rfl) dX12_turn_18 ⟨Nat.zero_le _, Nat.zero_le _⟩ (fun r2 G2 H locs hw2 hP hS => ?_)
    rcases hw2 with ⟨rfl, rfl, hi1_2, hi2_2⟩ | ⟨rfl, rfl, hi0_2⟩
    · skip
      have hi3_2 := Int32.not_lt.mpr hi1_2
      have hi4_2 := Int32.not_lt.mpr hi2_2
      refine lv_if_ne (tgt := 31) hx hb dX12_turn_21 (by decide) (fun _ => ?_) (fun h_ => absurd h_ (by decide))
      refine lv_iload_n hx hb dX12_turn_31 rfl (lv_at hl 3 rfl) ?_
      refine lv_if_ge (tgt := 42) hx hb dX12_turn_32 (by decide) (fun c_32 => ?_) (fun c_32 => ?_)
      · skip
        have d_32 := Int32.not_lt.mpr c_32
        refine lv_iload_n hx hb dX12_turn_42 rfl (lv_at hl 3 rfl) ?_
        refine lv_bipush (v := (9 : Int32)) hx hb dX12_turn_43 (by decide) ?_
        refine lv_icmp_le (tgt := 55) hx hb dX12_turn_45 (by decide) (fun c_45 => ?_) (fun c_45 => ?_)
        · skip
          have d_45 := Int32.not_lt.mpr c_45
          refine lv_bipush (v := (10 : Int32)) hx hb dX12_turn_55 (by decide) ?_
          refine lv_aload_n hx hb dX12_turn_57 rfl (lv_at hl 0 rfl) ?_
          refine z_get C0 hP (C := RX12) (T := TX12) (N := 21) (ci := 10) (index := 9) (k := 92) (ref := "WetSuitPedalsShoesModel") (zk_lt (rfl : zk 92 = 10) (by decide)) (zd_10 E (rfl : zk 92 = 10) _) rfl (zmi inU_12) 0 (by decide) (zm flRX12_9) rfl (v := .ref (E.1 93)) (rfl) dX12_turn_58 ?_
          refine lv_iload_n hx hb dX12_turn_61 rfl (lv_at hl 1 rfl) ?_
          refine lv_iconst (v := (0 : Int32)) hx hb dX12_turn_62 (by decide) ?_
          refine z_Si C0 hP hD hA hS (As := [.int (nI is), .int (0 : Int32)]) (rest := [.ref (E.1 93), .int (10 : Int32)]) (c_X12_of l E _ is 0) (va_cwS 2 hts (zgS zbw mlRX12_66 stX12_of iniRX12 coX12_of) rfl rfl rfl (by decide +kernel) ⟨Nat.le_of_ble_eq_true rfl, Nat.le_of_ble_eq_true rfl⟩) rfl hl.1 rfl (Nat.le_of_ble_eq_true rfl) dX12_turn_63 ⟨Nat.zero_le _, Nat.zero_le _⟩ (fun r3 G3 H locs hw3 hP hS => ?_)
          obtain ⟨hr3, rfl⟩ := hw3
          subst hr3
          refine z_eqi (y := (nI (2 + 3 * is))) (congrArg nI (by omega)) ?_
          refine z_iald C0 hP (k := 93) (i := 2 + 3 * is) (v := (r (2 + 3 * is))) (rfl : zk 93 = 11) (Nat.lt_of_lt_of_eq (show 2 + 3 * is < 102 by omega) (rfl : zl 93 = 102).symm) rfl dX12_turn_66 (congrFun (hM) _) ?_
          refine lv_imul hx hb dX12_turn_67 ?_
          refine lv_aload_n hx hb dX12_turn_68 rfl (lv_at hl 0 rfl) ?_
          refine z_get C0 hP (C := RX12) (T := TX12) (N := 21) (ci := 10) (index := 9) (k := 92) (ref := "WetSuitPedalsShoesModel") (zk_lt (rfl : zk 92 = 10) (by decide)) (zd_10 E (rfl : zk 92 = 10) _) rfl (zmi inU_12) 0 (by decide) (zm flRX12_9) rfl (v := .ref (E.1 93)) (rfl) dX12_turn_69 ?_
          refine lv_iload_n hx hb dX12_turn_72 rfl (lv_at hl 1 rfl) ?_
          refine lv_iconst (v := (1 : Int32)) hx hb dX12_turn_73 (by decide) ?_
          refine z_Si C0 hP hD hA hS (As := [.int (nI is), .int (1 : Int32)]) (rest := [.ref (E.1 93), .int ((10 : Int32) * (r (2 + 3 * is)))]) (c_X12_of l E _ is 1) (va_cwS 2 hts (zgS zbw mlRX12_66 stX12_of iniRX12 coX12_of) rfl rfl rfl (by decide +kernel) ⟨Nat.le_of_ble_eq_true rfl, Nat.le_of_ble_eq_true rfl⟩) rfl hl.1 rfl (Nat.le_of_ble_eq_true rfl) dX12_turn_74 ⟨Nat.zero_le _, Nat.zero_le _⟩ (fun r4 G4 H locs hw4 hP hS => ?_)
          obtain ⟨hr4, rfl⟩ := hw4
          subst hr4
          refine z_eqi (y := (nI (3 + 3 * is))) (congrArg nI (by omega)) ?_
          refine z_iald C0 hP (k := 93) (i := 3 + 3 * is) (v := (r (3 + 3 * is))) (rfl : zk 93 = 11) (Nat.lt_of_lt_of_eq (show 3 + 3 * is < 102 by omega) (rfl : zl 93 = 102).symm) rfl dX12_turn_77 (congrFun (hM) _) ?_
          refine lv_iadd hx hb dX12_turn_78 ?_
          refine lv_istore (lv' := [(4, .int (((10 : Int32) * (r (2 + 3 * is))) + (r (3 + 3 * is)))), (0, .ref (E.1 92)), (1, .int (nI is)), (2, .int kind), (3, .int figure)]) hx hb dX12_turn_79 hl (by decide) rfl (fun ls hl => ?_)
          refine lv_aload_n hx hb dX12_turn_81 rfl (lv_at hl 1 rfl) ?_
          refine z_get C0 hP (C := RX12) (T := TX12) (N := 21) (ci := 10) (index := 9) (k := 92) (ref := "WetSuitPedalsShoesModel") (zk_lt (rfl : zk 92 = 10) (by decide)) (zd_10 E (rfl : zk 92 = 10) _) rfl (zmi inU_12) 0 (by decide) (zm flRX12_9) rfl (v := .ref (E.1 93)) (rfl) dX12_turn_82 ?_
          refine lv_iload_n hx hb dX12_turn_85 rfl (lv_at hl 2 rfl) ?_
          refine lv_iconst (v := (0 : Int32)) hx hb dX12_turn_86 (by decide) ?_
          refine z_Si C0 hP hD hA hS (As := [.int (nI is), .int (0 : Int32)]) (rest := [.ref (E.1 93)]) (c_X12_of l E _ is 0) (va_cwS 2 hts (zgS zbw mlRX12_66 stX12_of iniRX12 coX12_of) rfl rfl rfl (by decide +kernel) ⟨Nat.le_of_ble_eq_true rfl, Nat.le_of_ble_eq_true rfl⟩) rfl hl.1 rfl (Nat.le_of_ble_eq_true rfl) dX12_turn_87 ⟨Nat.zero_le _, Nat.zero_le _⟩ (fun r5 G5 H locs hw5 hP hS => ?_)
          obtain ⟨hr5, rfl⟩ := hw5
          subst hr5
          refine z_eqi (y := (nI (2 + 3 * is))) (congrArg nI (by omega)) ?_
          refine lv_iload_n hx hb dX12_turn_90 rfl (lv_at hl 3 rfl) ?_
          refine z_iast C0 hP hD hS (k := 93) (i := 2 + 3 * is) (v := kind) (F := r) (hM) (rfl : zk 93 = 11) (Nat.lt_of_lt_of_eq (show 2 + 3 * is < 102 by omega) (rfl : zl 93 = 102).symm) rfl dX12_turn_91 (fun H locs hP hS => ?_)
          refine lv_aload_n hx hb dX12_turn_92 rfl (lv_at hl 1 rfl) ?_
          refine z_get C0 hP (C := RX12) (T := TX12) (N := 21) (ci := 10) (index := 9) (k := 92) (ref := "WetSuitPedalsShoesModel") (zk_lt (rfl : zk 92 = 10) (by decide)) (zd_10 E (rfl : zk 92 = 10) _) rfl (zmi inU_12) 0 (by decide) (zm flRX12_9) rfl (v := .ref (E.1 93)) (rfl) dX12_turn_93 ?_
          refine lv_iload_n hx hb dX12_turn_96 rfl (lv_at hl 2 rfl) ?_
          refine lv_iconst (v := (1 : Int32)) hx hb dX12_turn_97 (by decide) ?_
          refine z_Si C0 hP hD hA hS (As := [.int (nI is), .int (1 : Int32)]) (rest := [.ref (E.1 93)]) (c_X12_of l E _ is 1) (va_cwS 2 hts (zgS zbw mlRX12_66 stX12_of iniRX12 coX12_of) rfl rfl rfl (by decide +kernel) ⟨Nat.le_of_ble_eq_true rfl, Nat.le_of_ble_eq_true rfl⟩) rfl hl.1 rfl (Nat.le_of_ble_eq_true rfl) dX12_turn_98 ⟨Nat.zero_le _, Nat.zero_le _⟩ (fun r6 G6 H locs hw6 hP hS => ?_)
          obtain ⟨hr6, rfl⟩ := hw6
          subst hr6
          refine z_eqi (y := (nI (3 + 3 * is))) (congrArg nI (by omega)) ?_
          refine lv_iload_n hx hb dX12_turn_101 rfl (lv_at hl 4 rfl) ?_
          refine z_iast C0 hP hD hS (k := 93) (i := 3 + 3 * is) (v := figure) (F := (upd r (2 + 3 * is) kind)) (g1_s _ _ _) (rfl : zk 93 = 11) (Nat.lt_of_lt_of_eq (show 3 + 3 * is < 102 by omega) (rfl : zl 93 = 102).symm) rfl dX12_turn_102 (fun H locs hP hS => ?_)
          have hP := zP_eq (g1_t _ _ _ _ : _ = (g1 G 93 (upd (upd r (2 + 3 * is) kind) (3 + 3 * is) figure))) hP
          refine lv_iload hx hb dX12_turn_103 (lv_at hl 0 rfl) ?_
          subst hQ_
          exact z_iret C0 hP hS (v := (((10 : Int32) * (r (2 + 3 * is))) + (r (3 + 3 * is)))) (by exact zUm_of (k := 0) (by simp [U_turn, hz_is, hy_is, hi3_2, hi4_2, d_32, d_45]) (g1_s _ _ _) (fun k hk => g1_n (by omega)) (g1_n (by decide))) dX12_turn_105
        · skip
          have d_45 := Int32.not_le.mp c_45
          refine lv_aload_n hx hb dX12_turn_48 rfl (lv_at hl 0 rfl) ?_
          refine lv_bipush (v := (-6 : Int32)) hx hb dX12_turn_49 (by decide) ?_
          refine z_Vi C0 hP hD hA hS (As := [.int (-6 : Int32)]) (rest := []) (k := 92) (c_X12_no l E _ (-6 : Int32) 6 (by decide) (by decide)) (cwV 1 hts (zgV zbw mlRX12_56 imX12_no seX12_no iniRX12 coX12_no) rfl rfl rfl (by decide +kernel) ⟨Nat.le_of_ble_eq_true rfl, Nat.le_of_ble_eq_true rfl⟩) (zk_lt (rfl : zk 92 = 10) (by decide)) (zd_10 E (rfl : zk 92 = 10) _) rfl rfl rfl hl.1 rfl (Nat.le_of_ble_eq_true rfl) dX12_turn_51 ⟨Nat.zero_le _, Nat.zero_le _⟩ (fun r7 G7 H locs hw7 hP hS => ?_)
          obtain ⟨rfl, rfl⟩ := hw7
          subst hQ_
          exact z_iret C0 hP hS (v := (-6 : Int32)) (by exact zUm_of (k := 6) (by simp [U_turn, hz_is, hy_is, hi3_2, hi4_2, d_32, d_45]) ((g1_n (by decide)).trans (hM)) (fun k hk => g1_n (by omega)) (g1_s _ _ _)) dX12_turn_54
      · skip
        have d_32 := Int32.not_le.mp c_32
        refine lv_aload_n hx hb dX12_turn_35 rfl (lv_at hl 0 rfl) ?_
        refine lv_bipush (v := (-4 : Int32)) hx hb dX12_turn_36 (by decide) ?_
        refine z_Vi C0 hP hD hA hS (As := [.int (-4 : Int32)]) (rest := []) (k := 92) (c_X12_no l E _ (-4 : Int32) 4 (by decide) (by decide)) (cwV 1 hts (zgV zbw mlRX12_56 imX12_no seX12_no iniRX12 coX12_no) rfl rfl rfl (by decide +kernel) ⟨Nat.le_of_ble_eq_true rfl, Nat.le_of_ble_eq_true rfl⟩) (zk_lt (rfl : zk 92 = 10) (by decide)) (zd_10 E (rfl : zk 92 = 10) _) rfl rfl rfl hl.1 rfl (Nat.le_of_ble_eq_true rfl) dX12_turn_38 ⟨Nat.zero_le _, Nat.zero_le _⟩ (fun r8 G8 H locs hw8 hP hS => ?_)
        obtain ⟨rfl, rfl⟩ := hw8
        subst hQ_
        exact z_iret C0 hP hS (v := (-4 : Int32)) (by exact zUm_of (k := 4) (by simp [U_turn, hz_is, hy_is, hi3_2, hi4_2, d_32]) ((g1_n (by decide)).trans (hM)) (fun k hk => g1_n (by omega)) (g1_s _ _ _)) dX12_turn_41
    · skip
      have hi5_2 := z_nin hi0_2
      refine lv_if_ne (tgt := 31) hx hb dX12_turn_21 (by decide) (fun h_ => absurd (by decide) h_) (fun _ => ?_)
      refine lv_aload_n hx hb dX12_turn_24 rfl (lv_at hl 0 rfl) ?_
      refine lv_bipush (v := (-2 : Int32)) hx hb dX12_turn_25 (by decide) ?_
      refine z_Vi C0 hP hD hA hS (As := [.int (-2 : Int32)]) (rest := []) (k := 92) (c_X12_no l E _ (-2 : Int32) 2 (by decide) (by decide)) (cwV 1 hts (zgV zbw mlRX12_56 imX12_no seX12_no iniRX12 coX12_no) rfl rfl rfl (by decide +kernel) ⟨Nat.le_of_ble_eq_true rfl, Nat.le_of_ble_eq_true rfl⟩) (zk_lt (rfl : zk 92 = 10) (by decide)) (zd_10 E (rfl : zk 92 = 10) _) rfl rfl rfl hl.1 rfl (Nat.le_of_ble_eq_true rfl) dX12_turn_27 ⟨Nat.zero_le _, Nat.zero_le _⟩ (fun r9 G9 H locs hw9 hP hS => ?_)
      obtain ⟨rfl, rfl⟩ := hw9
      subst hQ_
      exact z_iret C0 hP hS (v := (-2 : Int32)) (by exact zUm_of (k := 2) (by simp [U_turn, hz_is, hy_is, hi5_2]) ((g1_n (by decide)).trans (hM)) (fun k hk => g1_n (by omega)) (g1_s _ _ _)) dX12_turn_30
  · skip
    have hz_is := zin_f (by omega) hno1
    refine lv_if_ne (tgt := 14) hx hb dX12_turn_5 (by decide) (fun h_ => absurd (by decide) h_) (fun _ => ?_)
    refine lv_aload_n hx hb dX12_turn_8 rfl (lv_at hl 0 rfl) ?_
    refine lv_iconst (v := (-1 : Int32)) hx hb dX12_turn_9 (by decide) ?_
    refine z_Vi C0 hP hD hA hS (As := [.int (-1 : Int32)]) (rest := []) (k := 92) (c_X12_no l E _ (-1 : Int32) 1 (by decide) (by decide)) (cwV 1 hts (zgV zbw mlRX12_56 imX12_no seX12_no iniRX12 coX12_no) rfl rfl rfl (by decide +kernel) ⟨Nat.le_of_ble_eq_true rfl, Nat.le_of_ble_eq_true rfl⟩) (zk_lt (rfl : zk 92 = 10) (by decide)) (zd_10 E (rfl : zk 92 = 10) _) rfl rfl rfl hl.1 rfl (Nat.le_of_ble_eq_true rfl) dX12_turn_10 ⟨Nat.zero_le _, Nat.zero_le _⟩ (fun r10 G10 H locs hw10 hP hS => ?_)
    obtain ⟨rfl, rfl⟩ := hw10
    subst hQ_
    exact z_iret C0 hP hS (v := (-1 : Int32)) (by exact zUm_of (k := 1) (by simp [U_turn, hz_is]) ((g1_n (by decide)).trans (hM)) (fun k hk => g1_n (by omega)) (g1_s _ _ _)) dX12_turn_13
theorem mlRX12_142 : Cond.methodLink RX12 142 yX12_changes ∈ zU := zU_m 938 (by decide +kernel) rfl
theorem coX12_changes : Cond.code yX12_changes cX12_changes 6 none ∈ zU := zU_m 941 (by decide +kernel) rfl
theorem imX12_changes : Cond.instanceMethod yX12_changes ∈ zU := zU_m 940 (by decide +kernel) rfl
theorem seX12_changes : Cond.selects RX12 yX12_changes yX12_changes ∈ zU := zU_m 36 (by decide +kernel) rfl
set_option maxHeartbeats 4000000 in
set_option maxRecDepth 100000 in
theorem c_X12_swap (l : Launch) (E : zE) (G : zG) (r : Nat → Int32) (n na : Nat) (one other : Int32) (hM : G 93 = r) (hrn : r 0 = nI n) (hrna : r 1 = nI na) (hn10 : n ≤ 10) (hna : na ≤ 5) : zMi l yX12_swap wsX12_swap ({ frames := 2, cells := 0, slots := 0, locals := 46 } : Room) E G [.ref (E.1 92), .int one, .int other] (fun r1 G1 => zUm (U_swap r n one other) G r1 G1) := by
  refine zOf (cc := cX12_swap) (nL := 3) (ret := (some .int)) RX12 (by decide) rfl rfl (Nat.le_of_ble_eq_true rfl) ?_
  intro p_ e_ s_ m_ a_ b_ me_ c_ ls C0 hP hS hl
  have hx := C0.1
  have hb := C0.2.1
  have hts := C0.2.2.2.2.1
  have hD : zD E (zA E s_.heap.size) := C0.2.2.2.2.2.2.2.2
  have hA : ∀ q : Nat, s_.heap.size ≤ q → zA E s_.heap.size q := fun q h => Or.inr h
  refine z_gen (fun Q_ hQ_ => ?_)
  have hl : lv_has ls 3 [(0, .ref (E.1 92)), (1, .int one), (2, .int other)] := hl
  refine lv_aload_n hx hb dX12_swap_0 rfl (lv_at hl 0 rfl) ?_
  refine lv_iload_n hx hb dX12_swap_1 rfl (lv_at hl 1 rfl) ?_
  refine z_Vi C0 hP hD hA hS (As := [.int one]) (rest := []) (k := 92) (c_X12_isSection l E _ n one ((congrFun (hM) _).trans (hrn)) (by omega)) (cwV 1 hts (zgV zbw mlRX12_139 imX12_isSection seX12_isSection iniRX12 coX12_isSection) rfl rfl rfl (by decide +kernel) ⟨Nat.le_of_ble_eq_true rfl, Nat.le_of_ble_eq_true rfl⟩) (zk_lt (rfl : zk 92 = 10) (by decide)) (zd_10 E (rfl : zk 92 = 10) _) rfl rfl rfl hl.1 rfl (Nat.le_of_ble_eq_true rfl) dX12_swap_2 ⟨Nat.zero_le _, Nat.zero_le _⟩ (fun r1 G1 H locs hw1 hP hS => ?_)
  rcases hw1 with ⟨rfl, rfl, io, hio, rfl⟩ | ⟨rfl, rfl, hno1⟩
  · skip
    have hz_io := zin_t hio (by omega)
    have hy_io : zix (nI io) = io := zix_n (by omega)
    refine lv_if_eq (tgt := 21) hx hb dX12_swap_5 (by decide) (fun h_ => absurd h_ (by decide)) (fun _ => ?_)
    refine lv_aload_n hx hb dX12_swap_8 rfl (lv_at hl 0 rfl) ?_
    refine lv_iload_n hx hb dX12_swap_9 rfl (lv_at hl 2 rfl) ?_
    refine z_Vi C0 hP hD hA hS (As := [.int other]) (rest := []) (k := 92) (c_X12_isSection l E _ n other ((congrFun (hM) _).trans (hrn)) (by omega)) (cwV 1 hts (zgV zbw mlRX12_139 imX12_isSection seX12_isSection iniRX12 coX12_isSection) rfl rfl rfl (by decide +kernel) ⟨Nat.le_of_ble_eq_true rfl, Nat.le_of_ble_eq_true rfl⟩) (zk_lt (rfl : zk 92 = 10) (by decide)) (zd_10 E (rfl : zk 92 = 10) _) rfl rfl rfl hl.1 rfl (Nat.le_of_ble_eq_true rfl) dX12_swap_10 ⟨Nat.zero_le _, Nat.zero_le _⟩ (fun r2 G2 H locs hw2 hP hS => ?_)
    rcases hw2 with ⟨rfl, rfl, ip, hip, rfl⟩ | ⟨rfl, rfl, hno2⟩
    · skip
      have hz_ip := zin_t hip (by omega)
      have hy_ip : zix (nI ip) = ip := zix_n (by omega)
      refine lv_if_eq (tgt := 21) hx hb dX12_swap_13 (by decide) (fun h_ => absurd h_ (by decide)) (fun _ => ?_)
      refine lv_iload_n hx hb dX12_swap_16 rfl (lv_at hl 1 rfl) ?_
      refine lv_iload_n hx hb dX12_swap_17 rfl (lv_at hl 2 rfl) ?_
      refine z_N_ne hx hb (a := io) (b := ip) (tgt := 27) dX12_swap_18 rfl rfl (by omega) (by omega) (by decide) (fun c_18 => ?_) (fun c_18 => ?_)
      · skip
        have hne_ : ¬ nI io = nI ip := fun q => c_18 ((nI_eq (by omega) (by omega)).mp q)
        refine lv_aload_n hx hb dX12_swap_27 rfl (lv_at hl 0 rfl) ?_
        refine lv_iload_n hx hb dX12_swap_28 rfl (lv_at hl 1 rfl) ?_
        refine lv_iload_n hx hb dX12_swap_29 rfl (lv_at hl 2 rfl) ?_
        refine lv_aload_n hx hb dX12_swap_30 rfl (lv_at hl 0 rfl) ?_
        refine z_get C0 hP (C := RX12) (T := TX12) (N := 21) (ci := 10) (index := 9) (k := 92) (ref := "WetSuitPedalsShoesModel") (zk_lt (rfl : zk 92 = 10) (by decide)) (zd_10 E (rfl : zk 92 = 10) _) rfl (zmi inU_12) 0 (by decide) (zm flRX12_9) rfl (v := .ref (E.1 93)) (rfl) dX12_swap_31 ?_
        refine z_Vv C0 hP hD hA hS (As := [.int (nI io), .int (nI ip), .ref (E.1 93)]) (rest := []) (k := 92) (c_X12_changes l E _ 93 io ip z_lit_Arr102_93 (by omega) (by omega) (by omega)) (cwV 3 hts (zgV zbw mlRX12_142 imX12_changes seX12_changes iniRX12 coX12_changes) rfl rfl rfl (by decide +kernel) ⟨Nat.le_of_ble_eq_true rfl, Nat.le_of_ble_eq_true rfl⟩) (zk_lt (rfl : zk 92 = 10) (by decide)) (zd_10 E (rfl : zk 92 = 10) _) rfl rfl rfl hl.1 rfl (Nat.le_of_ble_eq_true rfl) dX12_swap_34 ⟨Nat.zero_le _, Nat.zero_le _⟩ (fun G3 H locs hw3 hP hS => ?_)
        obtain rfl := hw3
        have hP := zP_eq (congrArg (fun z_ : Nat → Int32 => g1 G 93 (s_chg z_ io ip 3)) (show G 93 = r from hM)) hP
        refine lv_aload_n hx hb dX12_swap_37 rfl (lv_at hl 0 rfl) ?_
        refine z_get C0 hP (C := RX12) (T := TX12) (N := 21) (ci := 10) (index := 9) (k := 92) (ref := "WetSuitPedalsShoesModel") (zk_lt (rfl : zk 92 = 10) (by decide)) (zd_10 E (rfl : zk 92 = 10) _) rfl (zmi inU_12) 0 (by decide) (zm flRX12_9) rfl (v := .ref (E.1 93)) (rfl) dX12_swap_38 ?_
        refine lv_iconst (v := (0 : Int32)) hx hb dX12_swap_41 (by decide) ?_
        refine z_iald C0 hP (k := 93) (i := 0) (v := (nI n)) (rfl : zk 93 = 11) (Nat.lt_of_lt_of_eq (show 0 < 102 by decide) (rfl : zl 93 = 102).symm) rfl dX12_swap_42 ((congrFun (g1_s _ _ _) _).trans ((s_chg_lo 3 0 (by decide)).trans hrn)) ?_
        subst hQ_
        exact z_iret C0 hP hS (v := (nI n)) (by exact zUm_of (k := 0) (by simp [U_swap, hz_io, hy_io, hz_ip, hy_ip, c_18, hne_]) (g1_s _ _ _) (fun k hk => g1_n (by omega)) (g1_n (by decide))) dX12_swap_43
      · skip
        have hne_ : nI io = nI ip := congrArg nI c_18
        refine lv_aload_n hx hb dX12_swap_21 rfl (lv_at hl 0 rfl) ?_
        refine lv_iconst (v := (-1 : Int32)) hx hb dX12_swap_22 (by decide) ?_
        refine z_Vi C0 hP hD hA hS (As := [.int (-1 : Int32)]) (rest := []) (k := 92) (c_X12_no l E _ (-1 : Int32) 1 (by decide) (by decide)) (cwV 1 hts (zgV zbw mlRX12_56 imX12_no seX12_no iniRX12 coX12_no) rfl rfl rfl (by decide +kernel) ⟨Nat.le_of_ble_eq_true rfl, Nat.le_of_ble_eq_true rfl⟩) (zk_lt (rfl : zk 92 = 10) (by decide)) (zd_10 E (rfl : zk 92 = 10) _) rfl rfl rfl hl.1 rfl (Nat.le_of_ble_eq_true rfl) dX12_swap_23 ⟨Nat.zero_le _, Nat.zero_le _⟩ (fun r4 G4 H locs hw4 hP hS => ?_)
        obtain ⟨rfl, rfl⟩ := hw4
        subst hQ_
        exact z_iret C0 hP hS (v := (-1 : Int32)) (by exact zUm_of (k := 1) (by simp [U_swap, hz_io, hy_io, hz_ip, hy_ip, c_18, hne_]) ((g1_n (by decide)).trans (hM)) (fun k hk => g1_n (by omega)) (g1_s _ _ _)) dX12_swap_26
    · skip
      have hz_ip := zin_f (by omega) hno2
      refine lv_if_eq (tgt := 21) hx hb dX12_swap_13 (by decide) (fun _ => ?_) (fun h_ => absurd (by decide) h_)
      refine lv_aload_n hx hb dX12_swap_21 rfl (lv_at hl 0 rfl) ?_
      refine lv_iconst (v := (-1 : Int32)) hx hb dX12_swap_22 (by decide) ?_
      refine z_Vi C0 hP hD hA hS (As := [.int (-1 : Int32)]) (rest := []) (k := 92) (c_X12_no l E _ (-1 : Int32) 1 (by decide) (by decide)) (cwV 1 hts (zgV zbw mlRX12_56 imX12_no seX12_no iniRX12 coX12_no) rfl rfl rfl (by decide +kernel) ⟨Nat.le_of_ble_eq_true rfl, Nat.le_of_ble_eq_true rfl⟩) (zk_lt (rfl : zk 92 = 10) (by decide)) (zd_10 E (rfl : zk 92 = 10) _) rfl rfl rfl hl.1 rfl (Nat.le_of_ble_eq_true rfl) dX12_swap_23 ⟨Nat.zero_le _, Nat.zero_le _⟩ (fun r5 G5 H locs hw5 hP hS => ?_)
      obtain ⟨rfl, rfl⟩ := hw5
      subst hQ_
      exact z_iret C0 hP hS (v := (-1 : Int32)) (by exact zUm_of (k := 1) (by simp [U_swap, hz_io, hy_io, hz_ip]) ((g1_n (by decide)).trans (hM)) (fun k hk => g1_n (by omega)) (g1_s _ _ _)) dX12_swap_26
  · skip
    have hz_io := zin_f (by omega) hno1
    refine lv_if_eq (tgt := 21) hx hb dX12_swap_5 (by decide) (fun _ => ?_) (fun h_ => absurd (by decide) h_)
    refine lv_aload_n hx hb dX12_swap_21 rfl (lv_at hl 0 rfl) ?_
    refine lv_iconst (v := (-1 : Int32)) hx hb dX12_swap_22 (by decide) ?_
    refine z_Vi C0 hP hD hA hS (As := [.int (-1 : Int32)]) (rest := []) (k := 92) (c_X12_no l E _ (-1 : Int32) 1 (by decide) (by decide)) (cwV 1 hts (zgV zbw mlRX12_56 imX12_no seX12_no iniRX12 coX12_no) rfl rfl rfl (by decide +kernel) ⟨Nat.le_of_ble_eq_true rfl, Nat.le_of_ble_eq_true rfl⟩) (zk_lt (rfl : zk 92 = 10) (by decide)) (zd_10 E (rfl : zk 92 = 10) _) rfl rfl rfl hl.1 rfl (Nat.le_of_ble_eq_true rfl) dX12_swap_23 ⟨Nat.zero_le _, Nat.zero_le _⟩ (fun r6 G6 H locs hw6 hP hS => ?_)
    obtain ⟨rfl, rfl⟩ := hw6
    subst hQ_
    exact z_iret C0 hP hS (v := (-1 : Int32)) (by exact zUm_of (k := 1) (by simp [U_swap, hz_io]) ((g1_n (by decide)).trans (hM)) (fun k hk => g1_n (by omega)) (g1_s _ _ _)) dX12_swap_26
set_option maxHeartbeats 4000000 in
set_option maxRecDepth 100000 in
theorem c_X12_skill (l : Launch) (E : zE) (G : zG) (r : Nat → Int32) (n na : Nat) (athlete what v : Int32) (hM : G 93 = r) (hrn : r 0 = nI n) (hrna : r 1 = nI na) (hn10 : n ≤ 10) (hna : na ≤ 5) : zMi l yX12_skill wsX12_skill ({ frames := 2, cells := 0, slots := 0, locals := 43 } : Room) E G [.ref (E.1 92), .int athlete, .int what, .int v] (fun r1 G1 => zUm (U_skill r na athlete what v) G r1 G1) := by
  refine zOf (cc := cX12_skill) (nL := 5) (ret := (some .int)) RX12 (by decide) rfl rfl (Nat.le_of_ble_eq_true rfl) ?_
  intro p_ e_ s_ m_ a_ b_ me_ c_ ls C0 hP hS hl
  have hx := C0.1
  have hb := C0.2.1
  have hts := C0.2.2.2.2.1
  have hD : zD E (zA E s_.heap.size) := C0.2.2.2.2.2.2.2.2
  have hA : ∀ q : Nat, s_.heap.size ≤ q → zA E s_.heap.size q := fun q h => Or.inr h
  refine z_gen (fun Q_ hQ_ => ?_)
  have hl : lv_has ls 5 [(0, .ref (E.1 92)), (1, .int athlete), (2, .int what), (3, .int v)] := hl
  refine lv_aload_n hx hb dX12_skill_0 rfl (lv_at hl 0 rfl) ?_
  refine lv_iload_n hx hb dX12_skill_1 rfl (lv_at hl 1 rfl) ?_
  refine z_Vi C0 hP hD hA hS (As := [.int athlete]) (rest := []) (k := 92) (c_X12_isAthlete l E _ na athlete ((congrFun (hM) _).trans (hrna)) (by omega)) (cwV 1 hts (zgV zbw mlRX12_136 imX12_isAthlete seX12_isAthlete iniRX12 coX12_isAthlete) rfl rfl rfl (by decide +kernel) ⟨Nat.le_of_ble_eq_true rfl, Nat.le_of_ble_eq_true rfl⟩) (zk_lt (rfl : zk 92 = 10) (by decide)) (zd_10 E (rfl : zk 92 = 10) _) rfl rfl rfl hl.1 rfl (Nat.le_of_ble_eq_true rfl) dX12_skill_2 ⟨Nat.zero_le _, Nat.zero_le _⟩ (fun r1 G1 H locs hw1 hP hS => ?_)
  rcases hw1 with ⟨rfl, rfl, ia, hia, rfl⟩ | ⟨rfl, rfl, hno1⟩
  · skip
    have hz_ia := zin_t hia (by omega)
    have hy_ia : zix (nI ia) = ia := zix_n (by omega)
    refine lv_if_ne (tgt := 14) hx hb dX12_skill_5 (by decide) (fun _ => ?_) (fun h_ => absurd h_ (by decide))
    refine lv_iload_n hx hb dX12_skill_14 rfl (lv_at hl 2 rfl) ?_
    refine lv_iconst (v := (0 : Int32)) hx hb dX12_skill_15 (by decide) ?_
    refine lv_iconst (v := (3 : Int32)) hx hb dX12_skill_16 (by decide) ?_
    refine z_Si C0 hP hD hA hS (As := [.int what, .int (0 : Int32), .int (3 : Int32)]) (rest := []) (c_X12_isIn l E _ what (0 : Int32) (3 : Int32)) (va_cwS 3 hts (zgS zbw mlRX12_62 stX12_isIn iniRX12 coX12_isIn) rfl rfl rfl (by decide +kernel) ⟨Nat.le_of_ble_eq_true rfl, Nat.le_of_ble_eq_true rfl⟩) rfl hl.1 rfl (Nat.le_of_ble_eq_true rfl) dX12_skill_17 ⟨Nat.zero_le _, Nat.zero_le _⟩ (fun r2 G2 H locs hw2 hP hS => ?_)
    rcases hw2 with ⟨rfl, rfl, hi1_2, hi2_2⟩ | ⟨rfl, rfl, hi0_2⟩
    · skip
      have hi3_2 := Int32.not_lt.mpr hi1_2
      have hi4_2 := Int32.not_lt.mpr hi2_2
      obtain ⟨wh, hwh, rfl⟩ := z_rng (m := 4) hi3_2 hi2_2 (by decide) (by decide)
      have hy_wh : zix (nI wh) = wh := zix_n (by omega)
      refine lv_if_ne (tgt := 30) hx hb dX12_skill_20 (by decide) (fun _ => ?_) (fun h_ => absurd h_ (by decide))
      refine lv_iload_n hx hb dX12_skill_30 rfl (lv_at hl 3 rfl) ?_
      refine lv_if_ge (tgt := 41) hx hb dX12_skill_31 (by decide) (fun c_31 => ?_) (fun c_31 => ?_)
      · skip
        have d_31 := Int32.not_lt.mpr c_31
        refine lv_iload_n hx hb dX12_skill_41 rfl (lv_at hl 3 rfl) ?_
        refine lv_iload_n hx hb dX12_skill_42 rfl (lv_at hl 2 rfl) ?_
        refine lv_iconst (v := (3 : Int32)) hx hb dX12_skill_43 (by decide) ?_
        refine lv_icmp_ne (tgt := 52) hx hb dX12_skill_44 (by decide) (fun c_44 => ?_) (fun c_44 => ?_)
        · skip
          refine lv_bipush (v := (9 : Int32)) hx hb dX12_skill_52 (by decide) ?_
          refine lv_icmp_le (tgt := 64) hx hb dX12_skill_54 (by decide) (fun c_54 => ?_) (fun c_54 => ?_)
          · skip
            have d_54 := Int32.not_lt.mpr c_54
            refine lv_aload_n hx hb dX12_skill_64 rfl (lv_at hl 0 rfl) ?_
            refine z_get C0 hP (C := RX12) (T := TX12) (N := 21) (ci := 10) (index := 9) (k := 92) (ref := "WetSuitPedalsShoesModel") (zk_lt (rfl : zk 92 = 10) (by decide)) (zd_10 E (rfl : zk 92 = 10) _) rfl (zmi inU_12) 0 (by decide) (zm flRX12_9) rfl (v := .ref (E.1 93)) (rfl) dX12_skill_65 ?_
            refine lv_iload_n hx hb dX12_skill_68 rfl (lv_at hl 1 rfl) ?_
            refine lv_iload_n hx hb dX12_skill_69 rfl (lv_at hl 2 rfl) ?_
            refine z_Si C0 hP hD hA hS (As := [.int (nI ia), .int (nI wh)]) (rest := [.ref (E.1 93)]) (c_X12_athleteAt l E _ ia wh) (va_cwS 2 hts (zgS zbw mlRX12_70 stX12_athleteAt iniRX12 coX12_athleteAt) rfl rfl rfl (by decide +kernel) ⟨Nat.le_of_ble_eq_true rfl, Nat.le_of_ble_eq_true rfl⟩) rfl hl.1 rfl (Nat.le_of_ble_eq_true rfl) dX12_skill_70 ⟨Nat.zero_le _, Nat.zero_le _⟩ (fun r3 G3 H locs hw3 hP hS => ?_)
            obtain ⟨hr3, rfl⟩ := hw3
            subst hr3
            refine z_eqi (y := (nI (32 + 4 * ia + wh))) (congrArg nI (by omega)) ?_
            refine z_iald C0 hP (k := 93) (i := 32 + 4 * ia + wh) (v := (r (32 + 4 * ia + wh))) (rfl : zk 93 = 11) (Nat.lt_of_lt_of_eq (show 32 + 4 * ia + wh < 102 by omega) (rfl : zl 93 = 102).symm) rfl dX12_skill_73 (congrFun (hM) _) ?_
            refine lv_istore (lv' := [(4, .int (r (32 + 4 * ia + wh))), (0, .ref (E.1 92)), (1, .int (nI ia)), (2, .int (nI wh)), (3, .int v)]) hx hb dX12_skill_74 hl (by decide) rfl (fun ls hl => ?_)
            refine lv_aload_n hx hb dX12_skill_76 rfl (lv_at hl 1 rfl) ?_
            refine z_get C0 hP (C := RX12) (T := TX12) (N := 21) (ci := 10) (index := 9) (k := 92) (ref := "WetSuitPedalsShoesModel") (zk_lt (rfl : zk 92 = 10) (by decide)) (zd_10 E (rfl : zk 92 = 10) _) rfl (zmi inU_12) 0 (by decide) (zm flRX12_9) rfl (v := .ref (E.1 93)) (rfl) dX12_skill_77 ?_
            refine lv_iload_n hx hb dX12_skill_80 rfl (lv_at hl 2 rfl) ?_
            refine lv_iload_n hx hb dX12_skill_81 rfl (lv_at hl 3 rfl) ?_
            refine z_Si C0 hP hD hA hS (As := [.int (nI ia), .int (nI wh)]) (rest := [.ref (E.1 93)]) (c_X12_athleteAt l E _ ia wh) (va_cwS 2 hts (zgS zbw mlRX12_70 stX12_athleteAt iniRX12 coX12_athleteAt) rfl rfl rfl (by decide +kernel) ⟨Nat.le_of_ble_eq_true rfl, Nat.le_of_ble_eq_true rfl⟩) rfl hl.1 rfl (Nat.le_of_ble_eq_true rfl) dX12_skill_82 ⟨Nat.zero_le _, Nat.zero_le _⟩ (fun r4 G4 H locs hw4 hP hS => ?_)
            obtain ⟨hr4, rfl⟩ := hw4
            subst hr4
            refine z_eqi (y := (nI (32 + 4 * ia + wh))) (congrArg nI (by omega)) ?_
            refine lv_iload_n hx hb dX12_skill_85 rfl (lv_at hl 4 rfl) ?_
            refine z_iast C0 hP hD hS (k := 93) (i := 32 + 4 * ia + wh) (v := v) (F := r) (hM) (rfl : zk 93 = 11) (Nat.lt_of_lt_of_eq (show 32 + 4 * ia + wh < 102 by omega) (rfl : zl 93 = 102).symm) rfl dX12_skill_86 (fun H locs hP hS => ?_)
            refine lv_iload hx hb dX12_skill_87 (lv_at hl 0 rfl) ?_
            subst hQ_
            exact z_iret C0 hP hS (v := (r (32 + 4 * ia + wh))) (by exact zUm_of (k := 0) (by simp [U_skill, hz_ia, hy_ia, hi3_2, hi4_2, hy_wh, d_31, c_44, d_54]) (g1_s _ _ _) (fun k hk => g1_n (by omega)) (g1_n (by decide))) dX12_skill_89
          · skip
            have d_54 := Int32.not_le.mp c_54
            refine lv_aload_n hx hb dX12_skill_57 rfl (lv_at hl 0 rfl) ?_
            refine lv_bipush (v := (-6 : Int32)) hx hb dX12_skill_58 (by decide) ?_
            refine z_Vi C0 hP hD hA hS (As := [.int (-6 : Int32)]) (rest := []) (k := 92) (c_X12_no l E _ (-6 : Int32) 6 (by decide) (by decide)) (cwV 1 hts (zgV zbw mlRX12_56 imX12_no seX12_no iniRX12 coX12_no) rfl rfl rfl (by decide +kernel) ⟨Nat.le_of_ble_eq_true rfl, Nat.le_of_ble_eq_true rfl⟩) (zk_lt (rfl : zk 92 = 10) (by decide)) (zd_10 E (rfl : zk 92 = 10) _) rfl rfl rfl hl.1 rfl (Nat.le_of_ble_eq_true rfl) dX12_skill_60 ⟨Nat.zero_le _, Nat.zero_le _⟩ (fun r5 G5 H locs hw5 hP hS => ?_)
            obtain ⟨rfl, rfl⟩ := hw5
            subst hQ_
            exact z_iret C0 hP hS (v := (-6 : Int32)) (by exact zUm_of (k := 6) (by simp [U_skill, hz_ia, hy_ia, hi3_2, hi4_2, hy_wh, d_31, c_44, d_54]) ((g1_n (by decide)).trans (hM)) (fun k hk => g1_n (by omega)) (g1_s _ _ _)) dX12_skill_63
        · skip
          have e_44 := (show zix 3 = wh from by rw [← c_44]; exact hy_wh)
          refine lv_bipush (v := (99 : Int32)) hx hb dX12_skill_47 (by decide) ?_
          refine lv_goto (tgt := 54) hx hb dX12_skill_49 (by decide) ?_
          refine lv_icmp_le (tgt := 64) hx hb dX12_skill_54 (by decide) (fun c_54 => ?_) (fun c_54 => ?_)
          · skip
            have d_54 := Int32.not_lt.mpr c_54
            refine lv_aload_n hx hb dX12_skill_64 rfl (lv_at hl 0 rfl) ?_
            refine z_get C0 hP (C := RX12) (T := TX12) (N := 21) (ci := 10) (index := 9) (k := 92) (ref := "WetSuitPedalsShoesModel") (zk_lt (rfl : zk 92 = 10) (by decide)) (zd_10 E (rfl : zk 92 = 10) _) rfl (zmi inU_12) 0 (by decide) (zm flRX12_9) rfl (v := .ref (E.1 93)) (rfl) dX12_skill_65 ?_
            refine lv_iload_n hx hb dX12_skill_68 rfl (lv_at hl 1 rfl) ?_
            refine lv_iload_n hx hb dX12_skill_69 rfl (lv_at hl 2 rfl) ?_
            refine z_Si C0 hP hD hA hS (As := [.int (nI ia), .int (nI wh)]) (rest := [.ref (E.1 93)]) (c_X12_athleteAt l E _ ia wh) (va_cwS 2 hts (zgS zbw mlRX12_70 stX12_athleteAt iniRX12 coX12_athleteAt) rfl rfl rfl (by decide +kernel) ⟨Nat.le_of_ble_eq_true rfl, Nat.le_of_ble_eq_true rfl⟩) rfl hl.1 rfl (Nat.le_of_ble_eq_true rfl) dX12_skill_70 ⟨Nat.zero_le _, Nat.zero_le _⟩ (fun r6 G6 H locs hw6 hP hS => ?_)
            obtain ⟨hr6, rfl⟩ := hw6
            subst hr6
            refine z_eqi (y := (nI (32 + 4 * ia + wh))) (congrArg nI (by omega)) ?_
            refine z_iald C0 hP (k := 93) (i := 32 + 4 * ia + wh) (v := (r (32 + 4 * ia + wh))) (rfl : zk 93 = 11) (Nat.lt_of_lt_of_eq (show 32 + 4 * ia + wh < 102 by omega) (rfl : zl 93 = 102).symm) rfl dX12_skill_73 (congrFun (hM) _) ?_
            refine lv_istore (lv' := [(4, .int (r (32 + 4 * ia + wh))), (0, .ref (E.1 92)), (1, .int (nI ia)), (2, .int (nI wh)), (3, .int v)]) hx hb dX12_skill_74 hl (by decide) rfl (fun ls hl => ?_)
            refine lv_aload_n hx hb dX12_skill_76 rfl (lv_at hl 1 rfl) ?_
            refine z_get C0 hP (C := RX12) (T := TX12) (N := 21) (ci := 10) (index := 9) (k := 92) (ref := "WetSuitPedalsShoesModel") (zk_lt (rfl : zk 92 = 10) (by decide)) (zd_10 E (rfl : zk 92 = 10) _) rfl (zmi inU_12) 0 (by decide) (zm flRX12_9) rfl (v := .ref (E.1 93)) (rfl) dX12_skill_77 ?_
            refine lv_iload_n hx hb dX12_skill_80 rfl (lv_at hl 2 rfl) ?_
            refine lv_iload_n hx hb dX12_skill_81 rfl (lv_at hl 3 rfl) ?_
            refine z_Si C0 hP hD hA hS (As := [.int (nI ia), .int (nI wh)]) (rest := [.ref (E.1 93)]) (c_X12_athleteAt l E _ ia wh) (va_cwS 2 hts (zgS zbw mlRX12_70 stX12_athleteAt iniRX12 coX12_athleteAt) rfl rfl rfl (by decide +kernel) ⟨Nat.le_of_ble_eq_true rfl, Nat.le_of_ble_eq_true rfl⟩) rfl hl.1 rfl (Nat.le_of_ble_eq_true rfl) dX12_skill_82 ⟨Nat.zero_le _, Nat.zero_le _⟩ (fun r7 G7 H locs hw7 hP hS => ?_)
            obtain ⟨hr7, rfl⟩ := hw7
            subst hr7
            refine z_eqi (y := (nI (32 + 4 * ia + wh))) (congrArg nI (by omega)) ?_
            refine lv_iload_n hx hb dX12_skill_85 rfl (lv_at hl 4 rfl) ?_
            refine z_iast C0 hP hD hS (k := 93) (i := 32 + 4 * ia + wh) (v := v) (F := r) (hM) (rfl : zk 93 = 11) (Nat.lt_of_lt_of_eq (show 32 + 4 * ia + wh < 102 by omega) (rfl : zl 93 = 102).symm) rfl dX12_skill_86 (fun H locs hP hS => ?_)
            refine lv_iload hx hb dX12_skill_87 (lv_at hl 0 rfl) ?_
            subst hQ_
            exact z_iret C0 hP hS (v := (r (32 + 4 * ia + wh))) (by exact zUm_of (k := 0) (by simp [U_skill, hz_ia, hy_ia, hi3_2, hi4_2, hy_wh, d_31, c_44, e_44, d_54]) (g1_s _ _ _) (fun k hk => g1_n (by omega)) (g1_n (by decide))) dX12_skill_89
          · skip
            have d_54 := Int32.not_le.mp c_54
            refine lv_aload_n hx hb dX12_skill_57 rfl (lv_at hl 0 rfl) ?_
            refine lv_bipush (v := (-6 : Int32)) hx hb dX12_skill_58 (by decide) ?_
            refine z_Vi C0 hP hD hA hS (As := [.int (-6 : Int32)]) (rest := []) (k := 92) (c_X12_no l E _ (-6 : Int32) 6 (by decide) (by decide)) (cwV 1 hts (zgV zbw mlRX12_56 imX12_no seX12_no iniRX12 coX12_no) rfl rfl rfl (by decide +kernel) ⟨Nat.le_of_ble_eq_true rfl, Nat.le_of_ble_eq_true rfl⟩) (zk_lt (rfl : zk 92 = 10) (by decide)) (zd_10 E (rfl : zk 92 = 10) _) rfl rfl rfl hl.1 rfl (Nat.le_of_ble_eq_true rfl) dX12_skill_60 ⟨Nat.zero_le _, Nat.zero_le _⟩ (fun r8 G8 H locs hw8 hP hS => ?_)
            obtain ⟨rfl, rfl⟩ := hw8
            subst hQ_
            exact z_iret C0 hP hS (v := (-6 : Int32)) (by exact zUm_of (k := 6) (by simp [U_skill, hz_ia, hy_ia, hi3_2, hi4_2, hy_wh, d_31, c_44, e_44, d_54]) ((g1_n (by decide)).trans (hM)) (fun k hk => g1_n (by omega)) (g1_s _ _ _)) dX12_skill_63
      · skip
        have d_31 := Int32.not_le.mp c_31
        refine lv_aload_n hx hb dX12_skill_34 rfl (lv_at hl 0 rfl) ?_
        refine lv_bipush (v := (-4 : Int32)) hx hb dX12_skill_35 (by decide) ?_
        refine z_Vi C0 hP hD hA hS (As := [.int (-4 : Int32)]) (rest := []) (k := 92) (c_X12_no l E _ (-4 : Int32) 4 (by decide) (by decide)) (cwV 1 hts (zgV zbw mlRX12_56 imX12_no seX12_no iniRX12 coX12_no) rfl rfl rfl (by decide +kernel) ⟨Nat.le_of_ble_eq_true rfl, Nat.le_of_ble_eq_true rfl⟩) (zk_lt (rfl : zk 92 = 10) (by decide)) (zd_10 E (rfl : zk 92 = 10) _) rfl rfl rfl hl.1 rfl (Nat.le_of_ble_eq_true rfl) dX12_skill_37 ⟨Nat.zero_le _, Nat.zero_le _⟩ (fun r9 G9 H locs hw9 hP hS => ?_)
        obtain ⟨rfl, rfl⟩ := hw9
        subst hQ_
        exact z_iret C0 hP hS (v := (-4 : Int32)) (by exact zUm_of (k := 4) (by simp [U_skill, hz_ia, hy_ia, hi3_2, hi4_2, hy_wh, d_31]) ((g1_n (by decide)).trans (hM)) (fun k hk => g1_n (by omega)) (g1_s _ _ _)) dX12_skill_40
    · skip
      have hi5_2 := z_nin hi0_2
      refine lv_if_ne (tgt := 30) hx hb dX12_skill_20 (by decide) (fun h_ => absurd (by decide) h_) (fun _ => ?_)
      refine lv_aload_n hx hb dX12_skill_23 rfl (lv_at hl 0 rfl) ?_
      refine lv_bipush (v := (-2 : Int32)) hx hb dX12_skill_24 (by decide) ?_
      refine z_Vi C0 hP hD hA hS (As := [.int (-2 : Int32)]) (rest := []) (k := 92) (c_X12_no l E _ (-2 : Int32) 2 (by decide) (by decide)) (cwV 1 hts (zgV zbw mlRX12_56 imX12_no seX12_no iniRX12 coX12_no) rfl rfl rfl (by decide +kernel) ⟨Nat.le_of_ble_eq_true rfl, Nat.le_of_ble_eq_true rfl⟩) (zk_lt (rfl : zk 92 = 10) (by decide)) (zd_10 E (rfl : zk 92 = 10) _) rfl rfl rfl hl.1 rfl (Nat.le_of_ble_eq_true rfl) dX12_skill_26 ⟨Nat.zero_le _, Nat.zero_le _⟩ (fun r10 G10 H locs hw10 hP hS => ?_)
      obtain ⟨rfl, rfl⟩ := hw10
      subst hQ_
      exact z_iret C0 hP hS (v := (-2 : Int32)) (by exact zUm_of (k := 2) (by simp [U_skill, hz_ia, hy_ia, hi5_2]) ((g1_n (by decide)).trans (hM)) (fun k hk => g1_n (by omega)) (g1_s _ _ _)) dX12_skill_29
  · skip
    have hz_ia := zin_f (by omega) hno1
    refine lv_if_ne (tgt := 14) hx hb dX12_skill_5 (by decide) (fun h_ => absurd (by decide) h_) (fun _ => ?_)
    refine lv_aload_n hx hb dX12_skill_8 rfl (lv_at hl 0 rfl) ?_
    refine lv_iconst (v := (-1 : Int32)) hx hb dX12_skill_9 (by decide) ?_
    refine z_Vi C0 hP hD hA hS (As := [.int (-1 : Int32)]) (rest := []) (k := 92) (c_X12_no l E _ (-1 : Int32) 1 (by decide) (by decide)) (cwV 1 hts (zgV zbw mlRX12_56 imX12_no seX12_no iniRX12 coX12_no) rfl rfl rfl (by decide +kernel) ⟨Nat.le_of_ble_eq_true rfl, Nat.le_of_ble_eq_true rfl⟩) (zk_lt (rfl : zk 92 = 10) (by decide)) (zd_10 E (rfl : zk 92 = 10) _) rfl rfl rfl hl.1 rfl (Nat.le_of_ble_eq_true rfl) dX12_skill_10 ⟨Nat.zero_le _, Nat.zero_le _⟩ (fun r11 G11 H locs hw11 hP hS => ?_)
    obtain ⟨rfl, rfl⟩ := hw11
    subst hQ_
    exact z_iret C0 hP hS (v := (-1 : Int32)) (by exact zUm_of (k := 1) (by simp [U_skill, hz_ia]) ((g1_n (by decide)).trans (hM)) (fun k hk => g1_n (by omega)) (g1_s _ _ _)) dX12_skill_13
set_option maxHeartbeats 4000000 in
set_option maxRecDepth 100000 in
theorem c_X12_tryHard (l : Launch) (E : zE) (G : zG) (r : Nat → Int32) (n na : Nat) (athlete sect v : Int32) (hM : G 93 = r) (hrn : r 0 = nI n) (hrna : r 1 = nI na) (hn10 : n ≤ 10) (hna : na ≤ 5) : zMi l yX12_tryHard wsX12_tryHard ({ frames := 2, cells := 0, slots := 0, locals := 43 } : Room) E G [.ref (E.1 92), .int athlete, .int sect, .int v] (fun r1 G1 => zUm (U_tryHard r n na athlete sect v) G r1 G1) := by
  refine zOf (cc := cX12_tryHard) (nL := 5) (ret := (some .int)) RX12 (by decide) rfl rfl (Nat.le_of_ble_eq_true rfl) ?_
  intro p_ e_ s_ m_ a_ b_ me_ c_ ls C0 hP hS hl
  have hx := C0.1
  have hb := C0.2.1
  have hts := C0.2.2.2.2.1
  have hD : zD E (zA E s_.heap.size) := C0.2.2.2.2.2.2.2.2
  have hA : ∀ q : Nat, s_.heap.size ≤ q → zA E s_.heap.size q := fun q h => Or.inr h
  refine z_gen (fun Q_ hQ_ => ?_)
  have hl : lv_has ls 5 [(0, .ref (E.1 92)), (1, .int athlete), (2, .int sect), (3, .int v)] := hl
  refine lv_aload_n hx hb dX12_tryHard_0 rfl (lv_at hl 0 rfl) ?_
  refine lv_iload_n hx hb dX12_tryHard_1 rfl (lv_at hl 1 rfl) ?_
  refine z_Vi C0 hP hD hA hS (As := [.int athlete]) (rest := []) (k := 92) (c_X12_isAthlete l E _ na athlete ((congrFun (hM) _).trans (hrna)) (by omega)) (cwV 1 hts (zgV zbw mlRX12_136 imX12_isAthlete seX12_isAthlete iniRX12 coX12_isAthlete) rfl rfl rfl (by decide +kernel) ⟨Nat.le_of_ble_eq_true rfl, Nat.le_of_ble_eq_true rfl⟩) (zk_lt (rfl : zk 92 = 10) (by decide)) (zd_10 E (rfl : zk 92 = 10) _) rfl rfl rfl hl.1 rfl (Nat.le_of_ble_eq_true rfl) dX12_tryHard_2 ⟨Nat.zero_le _, Nat.zero_le _⟩ (fun r1 G1 H locs hw1 hP hS => ?_)
  rcases hw1 with ⟨rfl, rfl, ia, hia, rfl⟩ | ⟨rfl, rfl, hno1⟩
  · skip
    have hz_ia := zin_t hia (by omega)
    have hy_ia : zix (nI ia) = ia := zix_n (by omega)
    refine lv_if_eq (tgt := 16) hx hb dX12_tryHard_5 (by decide) (fun h_ => absurd h_ (by decide)) (fun _ => ?_)
    refine lv_aload_n hx hb dX12_tryHard_8 rfl (lv_at hl 0 rfl) ?_
    refine lv_iload_n hx hb dX12_tryHard_9 rfl (lv_at hl 2 rfl) ?_
    refine z_Vi C0 hP hD hA hS (As := [.int sect]) (rest := []) (k := 92) (c_X12_isSection l E _ n sect ((congrFun (hM) _).trans (hrn)) (by omega)) (cwV 1 hts (zgV zbw mlRX12_139 imX12_isSection seX12_isSection iniRX12 coX12_isSection) rfl rfl rfl (by decide +kernel) ⟨Nat.le_of_ble_eq_true rfl, Nat.le_of_ble_eq_true rfl⟩) (zk_lt (rfl : zk 92 = 10) (by decide)) (zd_10 E (rfl : zk 92 = 10) _) rfl rfl rfl hl.1 rfl (Nat.le_of_ble_eq_true rfl) dX12_tryHard_10 ⟨Nat.zero_le _, Nat.zero_le _⟩ (fun r2 G2 H locs hw2 hP hS => ?_)
    rcases hw2 with ⟨rfl, rfl, is, his, rfl⟩ | ⟨rfl, rfl, hno2⟩
    · skip
      have hz_is := zin_t his (by omega)
      have hy_is : zix (nI is) = is := zix_n (by omega)
      refine lv_if_ne (tgt := 22) hx hb dX12_tryHard_13 (by decide) (fun _ => ?_) (fun h_ => absurd h_ (by decide))
      refine lv_iload_n hx hb dX12_tryHard_22 rfl (lv_at hl 3 rfl) ?_
      refine lv_if_ge (tgt := 33) hx hb dX12_tryHard_23 (by decide) (fun c_23 => ?_) (fun c_23 => ?_)
      · skip
        have d_23 := Int32.not_lt.mpr c_23
        refine lv_iload_n hx hb dX12_tryHard_33 rfl (lv_at hl 3 rfl) ?_
        refine lv_iconst (v := (4 : Int32)) hx hb dX12_tryHard_34 (by decide) ?_
        refine lv_icmp_lt (tgt := 45) hx hb dX12_tryHard_35 (by decide) (fun c_35 => ?_) (fun c_35 => ?_)
        · skip
          have e_35 := z_34 c_35
          refine lv_aload_n hx hb dX12_tryHard_45 rfl (lv_at hl 0 rfl) ?_
          refine z_get C0 hP (C := RX12) (T := TX12) (N := 21) (ci := 10) (index := 9) (k := 92) (ref := "WetSuitPedalsShoesModel") (zk_lt (rfl : zk 92 = 10) (by decide)) (zd_10 E (rfl : zk 92 = 10) _) rfl (zmi inU_12) 0 (by decide) (zm flRX12_9) rfl (v := .ref (E.1 93)) (rfl) dX12_tryHard_46 ?_
          refine lv_iload_n hx hb dX12_tryHard_49 rfl (lv_at hl 1 rfl) ?_
          refine lv_iload_n hx hb dX12_tryHard_50 rfl (lv_at hl 2 rfl) ?_
          refine z_Si C0 hP hD hA hS (As := [.int (nI ia), .int (nI is)]) (rest := [.ref (E.1 93)]) (c_X12_tried l E _ ia is) (va_cwS 2 hts (zgS zbw mlRX12_91 stX12_tried iniRX12 coX12_tried) rfl rfl rfl (by decide +kernel) ⟨Nat.le_of_ble_eq_true rfl, Nat.le_of_ble_eq_true rfl⟩) rfl hl.1 rfl (Nat.le_of_ble_eq_true rfl) dX12_tryHard_51 ⟨Nat.zero_le _, Nat.zero_le _⟩ (fun r3 G3 H locs hw3 hP hS => ?_)
          obtain ⟨hr3, rfl⟩ := hw3
          subst hr3
          refine z_eqi (y := (nI (52 + 10 * ia + is))) (congrArg nI (by omega)) ?_
          refine z_iald C0 hP (k := 93) (i := 52 + 10 * ia + is) (v := (r (52 + 10 * ia + is))) (rfl : zk 93 = 11) (Nat.lt_of_lt_of_eq (show 52 + 10 * ia + is < 102 by omega) (rfl : zl 93 = 102).symm) rfl dX12_tryHard_54 (congrFun (hM) _) ?_
          refine lv_istore (lv' := [(4, .int (r (52 + 10 * ia + is))), (0, .ref (E.1 92)), (1, .int (nI ia)), (2, .int (nI is)), (3, .int v)]) hx hb dX12_tryHard_55 hl (by decide) rfl (fun ls hl => ?_)
          refine lv_aload_n hx hb dX12_tryHard_57 rfl (lv_at hl 1 rfl) ?_
          refine z_get C0 hP (C := RX12) (T := TX12) (N := 21) (ci := 10) (index := 9) (k := 92) (ref := "WetSuitPedalsShoesModel") (zk_lt (rfl : zk 92 = 10) (by decide)) (zd_10 E (rfl : zk 92 = 10) _) rfl (zmi inU_12) 0 (by decide) (zm flRX12_9) rfl (v := .ref (E.1 93)) (rfl) dX12_tryHard_58 ?_
          refine lv_iload_n hx hb dX12_tryHard_61 rfl (lv_at hl 2 rfl) ?_
          refine lv_iload_n hx hb dX12_tryHard_62 rfl (lv_at hl 3 rfl) ?_
          refine z_Si C0 hP hD hA hS (As := [.int (nI ia), .int (nI is)]) (rest := [.ref (E.1 93)]) (c_X12_tried l E _ ia is) (va_cwS 2 hts (zgS zbw mlRX12_91 stX12_tried iniRX12 coX12_tried) rfl rfl rfl (by decide +kernel) ⟨Nat.le_of_ble_eq_true rfl, Nat.le_of_ble_eq_true rfl⟩) rfl hl.1 rfl (Nat.le_of_ble_eq_true rfl) dX12_tryHard_63 ⟨Nat.zero_le _, Nat.zero_le _⟩ (fun r4 G4 H locs hw4 hP hS => ?_)
          obtain ⟨hr4, rfl⟩ := hw4
          subst hr4
          refine z_eqi (y := (nI (52 + 10 * ia + is))) (congrArg nI (by omega)) ?_
          refine lv_iload_n hx hb dX12_tryHard_66 rfl (lv_at hl 4 rfl) ?_
          refine z_iast C0 hP hD hS (k := 93) (i := 52 + 10 * ia + is) (v := v) (F := r) (hM) (rfl : zk 93 = 11) (Nat.lt_of_lt_of_eq (show 52 + 10 * ia + is < 102 by omega) (rfl : zl 93 = 102).symm) rfl dX12_tryHard_67 (fun H locs hP hS => ?_)
          refine lv_iload hx hb dX12_tryHard_68 (lv_at hl 0 rfl) ?_
          subst hQ_
          exact z_iret C0 hP hS (v := (r (52 + 10 * ia + is))) (by exact zUm_of (k := 0) (by simp [U_tryHard, hz_ia, hy_ia, hz_is, hy_is, d_23, c_35, e_35]) (g1_s _ _ _) (fun k hk => g1_n (by omega)) (g1_n (by decide))) dX12_tryHard_70
        · skip
          have e_35 := z_34n c_35
          refine lv_aload_n hx hb dX12_tryHard_38 rfl (lv_at hl 0 rfl) ?_
          refine lv_bipush (v := (-6 : Int32)) hx hb dX12_tryHard_39 (by decide) ?_
          refine z_Vi C0 hP hD hA hS (As := [.int (-6 : Int32)]) (rest := []) (k := 92) (c_X12_no l E _ (-6 : Int32) 6 (by decide) (by decide)) (cwV 1 hts (zgV zbw mlRX12_56 imX12_no seX12_no iniRX12 coX12_no) rfl rfl rfl (by decide +kernel) ⟨Nat.le_of_ble_eq_true rfl, Nat.le_of_ble_eq_true rfl⟩) (zk_lt (rfl : zk 92 = 10) (by decide)) (zd_10 E (rfl : zk 92 = 10) _) rfl rfl rfl hl.1 rfl (Nat.le_of_ble_eq_true rfl) dX12_tryHard_41 ⟨Nat.zero_le _, Nat.zero_le _⟩ (fun r5 G5 H locs hw5 hP hS => ?_)
          obtain ⟨rfl, rfl⟩ := hw5
          subst hQ_
          exact z_iret C0 hP hS (v := (-6 : Int32)) (by exact zUm_of (k := 6) (by simp [U_tryHard, hz_ia, hy_ia, hz_is, hy_is, d_23, c_35, e_35]) ((g1_n (by decide)).trans (hM)) (fun k hk => g1_n (by omega)) (g1_s _ _ _)) dX12_tryHard_44
      · skip
        have d_23 := Int32.not_le.mp c_23
        refine lv_aload_n hx hb dX12_tryHard_26 rfl (lv_at hl 0 rfl) ?_
        refine lv_bipush (v := (-4 : Int32)) hx hb dX12_tryHard_27 (by decide) ?_
        refine z_Vi C0 hP hD hA hS (As := [.int (-4 : Int32)]) (rest := []) (k := 92) (c_X12_no l E _ (-4 : Int32) 4 (by decide) (by decide)) (cwV 1 hts (zgV zbw mlRX12_56 imX12_no seX12_no iniRX12 coX12_no) rfl rfl rfl (by decide +kernel) ⟨Nat.le_of_ble_eq_true rfl, Nat.le_of_ble_eq_true rfl⟩) (zk_lt (rfl : zk 92 = 10) (by decide)) (zd_10 E (rfl : zk 92 = 10) _) rfl rfl rfl hl.1 rfl (Nat.le_of_ble_eq_true rfl) dX12_tryHard_29 ⟨Nat.zero_le _, Nat.zero_le _⟩ (fun r6 G6 H locs hw6 hP hS => ?_)
        obtain ⟨rfl, rfl⟩ := hw6
        subst hQ_
        exact z_iret C0 hP hS (v := (-4 : Int32)) (by exact zUm_of (k := 4) (by simp [U_tryHard, hz_ia, hy_ia, hz_is, hy_is, d_23]) ((g1_n (by decide)).trans (hM)) (fun k hk => g1_n (by omega)) (g1_s _ _ _)) dX12_tryHard_32
    · skip
      have hz_is := zin_f (by omega) hno2
      refine lv_if_ne (tgt := 22) hx hb dX12_tryHard_13 (by decide) (fun h_ => absurd (by decide) h_) (fun _ => ?_)
      refine lv_aload_n hx hb dX12_tryHard_16 rfl (lv_at hl 0 rfl) ?_
      refine lv_iconst (v := (-1 : Int32)) hx hb dX12_tryHard_17 (by decide) ?_
      refine z_Vi C0 hP hD hA hS (As := [.int (-1 : Int32)]) (rest := []) (k := 92) (c_X12_no l E _ (-1 : Int32) 1 (by decide) (by decide)) (cwV 1 hts (zgV zbw mlRX12_56 imX12_no seX12_no iniRX12 coX12_no) rfl rfl rfl (by decide +kernel) ⟨Nat.le_of_ble_eq_true rfl, Nat.le_of_ble_eq_true rfl⟩) (zk_lt (rfl : zk 92 = 10) (by decide)) (zd_10 E (rfl : zk 92 = 10) _) rfl rfl rfl hl.1 rfl (Nat.le_of_ble_eq_true rfl) dX12_tryHard_18 ⟨Nat.zero_le _, Nat.zero_le _⟩ (fun r7 G7 H locs hw7 hP hS => ?_)
      obtain ⟨rfl, rfl⟩ := hw7
      subst hQ_
      exact z_iret C0 hP hS (v := (-1 : Int32)) (by exact zUm_of (k := 1) (by simp [U_tryHard, hz_ia, hy_ia, hz_is]) ((g1_n (by decide)).trans (hM)) (fun k hk => g1_n (by omega)) (g1_s _ _ _)) dX12_tryHard_21
  · skip
    have hz_ia := zin_f (by omega) hno1
    refine lv_if_eq (tgt := 16) hx hb dX12_tryHard_5 (by decide) (fun _ => ?_) (fun h_ => absurd (by decide) h_)
    refine lv_aload_n hx hb dX12_tryHard_16 rfl (lv_at hl 0 rfl) ?_
    refine lv_iconst (v := (-1 : Int32)) hx hb dX12_tryHard_17 (by decide) ?_
    refine z_Vi C0 hP hD hA hS (As := [.int (-1 : Int32)]) (rest := []) (k := 92) (c_X12_no l E _ (-1 : Int32) 1 (by decide) (by decide)) (cwV 1 hts (zgV zbw mlRX12_56 imX12_no seX12_no iniRX12 coX12_no) rfl rfl rfl (by decide +kernel) ⟨Nat.le_of_ble_eq_true rfl, Nat.le_of_ble_eq_true rfl⟩) (zk_lt (rfl : zk 92 = 10) (by decide)) (zd_10 E (rfl : zk 92 = 10) _) rfl rfl rfl hl.1 rfl (Nat.le_of_ble_eq_true rfl) dX12_tryHard_18 ⟨Nat.zero_le _, Nat.zero_le _⟩ (fun r8 G8 H locs hw8 hP hS => ?_)
    obtain ⟨rfl, rfl⟩ := hw8
    subst hQ_
    exact z_iret C0 hP hS (v := (-1 : Int32)) (by exact zUm_of (k := 1) (by simp [U_tryHard, hz_ia]) ((g1_n (by decide)).trans (hM)) (fun k hk => g1_n (by omega)) (g1_s _ _ _)) dX12_tryHard_21
