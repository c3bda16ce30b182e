/-! laid by wip/whole/vcg.py -/
theorem flRX11_151 : Cond.fieldLink RX11 151 "WetSuitPedalsShoes$Trial" "all" "[I" ∈ zU := zU_m 195 (by decide +kernel) rfl
theorem flRX11_148 : Cond.fieldLink RX11 148 "WetSuitPedalsShoes$Trial" "legs" "[I" ∈ zU := zU_m 193 (by decide +kernel) rfl
theorem flRX11_145 : Cond.fieldLink RX11 145 "WetSuitPedalsShoes$Trial" "seconds" "[I" ∈ zU := zU_m 191 (by decide +kernel) rfl
set_option maxHeartbeats 4000000 in
set_option maxRecDepth 100000 in
theorem c_X11_by (l : Launch) (E : zE) (G : zG) (r : Nat → Int32) (n na : Nat) (athlete sect what : Int32) (hR : zFA G 1 r n na) (hn10 : n ≤ 10) (hna : na ≤ 5) (hp : zPl G) (hkd : zKd r n) : zMi l yX11_by wsX11_by ({ frames := 5, cells := 0, slots := 0, locals := 111 } : Room) E G [.ref (E.1 0), .int athlete, .int sect, .int what] (fun r1 G1 => zQc (A_by r n na athlete sect what) G r1 G1) := by
  refine zOf (cc := cX11_by) (nL := 4) (ret := (some .int)) RX11 (by decide) rfl rfl (Nat.le_of_ble_eq_true rfl) ?_
  intro p_ e_ s_ m_ a_ b_ me_ c_ ls C0 hP hS hl
  have hx := C0.1
  have hb := C0.2.1
  have hts := C0.2.2.2.2.1
  have hD : zD E (zA E s_.heap.size) := C0.2.2.2.2.2.2.2.2
  have hA : ∀ q : Nat, s_.heap.size ≤ q → zA E s_.heap.size q := fun q h => Or.inr h
  refine z_gen (fun Q_ hQ_ => ?_)
  have hl : lv_has ls 4 [(0, .ref (E.1 0)), (1, .int athlete), (2, .int sect), (3, .int what)] := hl
  refine lv_aload_n hx hb dX11_by_0 rfl (lv_at hl 0 rfl) ?_
  refine z_get C0 hP (C := RX11) (T := TX11) (N := 11) (ci := 9) (index := 10) (k := 0) (ref := "WetSuitPedalsShoes") (zk_lt (rfl : zk 0 = 9) (by decide)) (zd_9 E (rfl : zk 0 = 9) _) rfl (zmi inU_11) 0 (by decide) (zm flRX11_10) rfl (v := .ref (E.1 1)) (rfl) dX11_by_1 ?_
  refine lv_iload_n hx hb dX11_by_4 rfl (lv_at hl 1 rfl) ?_
  refine z_Vi C0 hP hD hA hS (As := [.int athlete]) (rest := []) (k := 1) (c_X3_has l E _ 1 na athlete z_lit_Fie_1 (hR.2.1) (by omega)) (cwV 1 hts (zgV zbw mlRX11_117 imX3_has seX3_has iniRX3 coX3_has) rfl rfl rfl (by decide +kernel) ⟨Nat.le_of_ble_eq_true rfl, Nat.le_of_ble_eq_true rfl⟩) (zk_lt (rfl : zk 1 = 3) (by decide)) (zd_3 E (rfl : zk 1 = 3) _) rfl rfl rfl hl.1 rfl (Nat.le_of_ble_eq_true rfl) dX11_by_5 ⟨Nat.zero_le _, Nat.zero_le _⟩ (fun r1 G1 H locs hw1 hP hS => ?_)
  rcases hw1 with ⟨rfl, rfl, ia, hia, rfl⟩ | ⟨rfl, rfl, hno1⟩
  · skip
    have hz_ia := zin_t hia (by omega)
    have hy_ia : zix (nI ia) = ia := zix_n (by omega)
    refine lv_if_eq (tgt := 25) hx hb dX11_by_8 (by decide) (fun h_ => absurd h_ (by decide)) (fun _ => ?_)
    refine lv_aload_n hx hb dX11_by_11 rfl (lv_at hl 0 rfl) ?_
    refine z_get C0 hP (C := RX11) (T := TX11) (N := 11) (ci := 9) (index := 10) (k := 0) (ref := "WetSuitPedalsShoes") (zk_lt (rfl : zk 0 = 9) (by decide)) (zd_9 E (rfl : zk 0 = 9) _) rfl (zmi inU_11) 0 (by decide) (zm flRX11_10) rfl (v := .ref (E.1 1)) (rfl) dX11_by_12 ?_
    refine z_get C0 hP (C := RX3) (T := TX3) (N := 3) (ci := 3) (index := 93) (k := 1) (ref := "WetSuitPedalsShoes$Field") (zk_lt (rfl : zk 1 = 3) (by decide)) (zd_3 E (rfl : zk 1 = 3) _) rfl (zmi inU_3) 0 (by decide) (zm flRX11_93) rfl (v := .ref (E.1 2)) (rfl) dX11_by_15 ?_
    refine lv_iload_n hx hb dX11_by_18 rfl (lv_at hl 2 rfl) ?_
    refine z_Vi C0 hP hD hA hS (As := [.int sect]) (rest := []) (k := 2) (c_X1_has l E _ 2 n sect z_lit_Cou_2 (hR.1) (by omega)) (cwV 1 hts (zgV zbw mlRX11_97 imX1_has seX1_has iniRX1 coX1_has) rfl rfl rfl (by decide +kernel) ⟨Nat.le_of_ble_eq_true rfl, Nat.le_of_ble_eq_true rfl⟩) (zk_lt (rfl : zk 2 = 1) (by decide)) (zd_1 E (rfl : zk 2 = 1) _) rfl rfl rfl hl.1 rfl (Nat.le_of_ble_eq_true rfl) dX11_by_19 ⟨Nat.zero_le _, Nat.zero_le _⟩ (fun r2 G2 H locs hw2 hP hS => ?_)
    rcases hw2 with ⟨rfl, rfl, is, his, rfl⟩ | ⟨rfl, rfl, hno2⟩
    · skip
      have hz_is := zin_t his (by omega)
      have hy_is : zix (nI is) = is := zix_n (by omega)
      refine lv_if_ne (tgt := 31) hx hb dX11_by_22 (by decide) (fun _ => ?_) (fun h_ => absurd h_ (by decide))
      refine lv_iload_n hx hb dX11_by_31 rfl (lv_at hl 3 rfl) ?_
      refine lv_if_lt (tgt := 40) hx hb dX11_by_32 (by decide) (fun c_32 => ?_) (fun c_32 => ?_)
      · skip
        refine lv_aload_n hx hb dX11_by_40 rfl (lv_at hl 0 rfl) ?_
        refine lv_bipush (v := (-2 : Int32)) hx hb dX11_by_41 (by decide) ?_
        refine z_Vi C0 hP hD hA hS (As := [.int (-2 : Int32)]) (rest := []) (k := 0) (c_X11_refuse l E _ (-2 : Int32) 2 (by decide) (by decide) (by decide)) (cwV 1 hts (zgV zbw mlRX11_72 imX11_refuse seX11_refuse iniRX11 coX11_refuse) rfl rfl rfl (by decide +kernel) ⟨Nat.le_of_ble_eq_true rfl, Nat.le_of_ble_eq_true rfl⟩) (zk_lt (rfl : zk 0 = 9) (by decide)) (zd_9 E (rfl : zk 0 = 9) _) rfl rfl rfl hl.1 rfl (Nat.le_of_ble_eq_true rfl) dX11_by_43 ⟨Nat.zero_le _, Nat.zero_le _⟩ (fun r3 G3 H locs hw3 hP hS => ?_)
        obtain ⟨rfl, rfl⟩ := hw3
        subst hQ_
        exact z_iret C0 hP hS (v := (-2 : Int32)) (by exact zQc_of (k := 2) (by simp [A_by, hz_ia, hy_ia, hz_is, hy_is, c_32]) (fun k hk => g1_n (by omega)) (g1_s _ _ _) (z_plk (g1_n (by decide)) hp)) dX11_by_46
      · skip
        refine lv_iload_n hx hb dX11_by_35 rfl (lv_at hl 3 rfl) ?_
        refine lv_iconst (v := (2 : Int32)) hx hb dX11_by_36 (by decide) ?_
        refine lv_icmp_le (tgt := 47) hx hb dX11_by_37 (by decide) (fun c_37 => ?_) (fun c_37 => ?_)
        · skip
          have d_37 := Int32.not_lt.mpr c_37
          refine lv_aload_n hx hb dX11_by_47 rfl (lv_at hl 0 rfl) ?_
          refine lv_iload_n hx hb dX11_by_48 rfl (lv_at hl 1 rfl) ?_
          refine z_Vi C0 hP hD hA hS (As := [.int (nI ia)]) (rest := []) (k := 0) (c_X11_runPlan l E _ r n na ia hR hkd hn10 hna (by omega)) (cwV 1 hts (zgV zbw mlRX11_142 imX11_runPlan seX11_runPlan iniRX11 coX11_runPlan) rfl rfl rfl (by decide +kernel) ⟨Nat.le_of_ble_eq_true rfl, Nat.le_of_ble_eq_true rfl⟩) (zk_lt (rfl : zk 0 = 9) (by decide)) (zd_9 E (rfl : zk 0 = 9) _) rfl rfl rfl hl.1 rfl (Nat.le_of_ble_eq_true rfl) dX11_by_49 ⟨Nat.zero_le _, Nat.zero_le _⟩ (fun r4 G4 H locs hw4 hP hS => ?_)
          obtain ⟨hr4, hF4, hTA4, hdr4, h34⟩ := hw4
          subst hr4
          refine lv_pop hx hb dX11_by_52 rfl ?_
          refine lv_iload_n hx hb dX11_by_53 rfl (lv_at hl 3 rfl) ?_
          refine lv_if_ne (tgt := 67) hx hb dX11_by_54 (by decide) (fun c_54 => ?_) (fun c_54 => ?_)
          · skip
            refine lv_iload_n hx hb dX11_by_67 rfl (lv_at hl 3 rfl) ?_
            refine lv_iconst (v := (1 : Int32)) hx hb dX11_by_68 (by decide) ?_
            refine lv_icmp_ne (tgt := 84) hx hb dX11_by_69 (by decide) (fun c_69 => ?_) (fun c_69 => ?_)
            · skip
              refine lv_aload_n hx hb dX11_by_84 rfl (lv_at hl 0 rfl) ?_
              refine z_get C0 hP (C := RX11) (T := TX11) (N := 11) (ci := 9) (index := 44) (k := 0) (ref := "WetSuitPedalsShoes") (zk_lt (rfl : zk 0 = 9) (by decide)) (zd_9 E (rfl : zk 0 = 9) _) rfl (zmi inU_11) 6 (by decide) (zm flRX11_44) rfl (v := .ref (E.1 48)) (rfl) dX11_by_85 ?_
              refine z_get C0 hP (C := RX10) (T := TX10) (N := 6) (ci := 8) (index := 151) (k := 48) (ref := "WetSuitPedalsShoes$Trial") (zk_lt (rfl : zk 48 = 8) (by decide)) (zd_8 E (rfl : zk 48 = 8) _) rfl (zmi inU_10) 5 (by decide) (zm flRX11_151) rfl (v := .ref (E.1 58)) (rfl) dX11_by_88 ?_
              refine lv_iload_n hx hb dX11_by_91 rfl (lv_at hl 2 rfl) ?_
              refine z_iald C0 hP (k := 58) (i := is) (v := (q_all r ia is)) (rfl : zk 58 = 11) (Nat.lt_of_lt_of_eq (show is < 10 by omega) (rfl : zl 58 = 10).symm) rfl dX11_by_92 ((h34 is (by omega)).2.2) ?_
              subst hQ_
              exact z_iret C0 hP hS (v := (q_all r ia is)) (by exact zQc_of (k := 0) (by simp [A_by, hz_ia, hy_ia, hz_is, hy_is, c_32, d_37, c_54, c_69]) (fun k hk => hF4 k (by omega)) (hF4 _ (by decide)) (z_plk (hF4 _ (by decide)) hp)) dX11_by_93
            · skip
              refine lv_aload_n hx hb dX11_by_72 rfl (lv_at hl 0 rfl) ?_
              refine z_get C0 hP (C := RX11) (T := TX11) (N := 11) (ci := 9) (index := 44) (k := 0) (ref := "WetSuitPedalsShoes") (zk_lt (rfl : zk 0 = 9) (by decide)) (zd_9 E (rfl : zk 0 = 9) _) rfl (zmi inU_11) 6 (by decide) (zm flRX11_44) rfl (v := .ref (E.1 48)) (rfl) dX11_by_73 ?_
              refine z_get C0 hP (C := RX10) (T := TX10) (N := 6) (ci := 8) (index := 148) (k := 48) (ref := "WetSuitPedalsShoes$Trial") (zk_lt (rfl : zk 48 = 8) (by decide)) (zd_8 E (rfl : zk 48 = 8) _) rfl (zmi inU_10) 4 (by decide) (zm flRX11_148) rfl (v := .ref (E.1 57)) (rfl) dX11_by_76 ?_
              refine lv_iload_n hx hb dX11_by_79 rfl (lv_at hl 2 rfl) ?_
              refine z_iald C0 hP (k := 57) (i := is) (v := (q_leg r ia is)) (rfl : zk 57 = 11) (Nat.lt_of_lt_of_eq (show is < 10 by omega) (rfl : zl 57 = 10).symm) rfl dX11_by_80 ((h34 is (by omega)).2.1) ?_
              refine lv_goto (tgt := 93) hx hb dX11_by_81 (by decide) ?_
              subst hQ_
              exact z_iret C0 hP hS (v := (q_leg r ia is)) (by exact zQc_of (k := 0) (by simp [A_by, hz_ia, hy_ia, hz_is, hy_is, c_32, d_37, c_54, c_69]) (fun k hk => hF4 k (by omega)) (hF4 _ (by decide)) (z_plk (hF4 _ (by decide)) hp)) dX11_by_93
          · skip
            refine lv_aload_n hx hb dX11_by_57 rfl (lv_at hl 0 rfl) ?_
            refine z_get C0 hP (C := RX11) (T := TX11) (N := 11) (ci := 9) (index := 44) (k := 0) (ref := "WetSuitPedalsShoes") (zk_lt (rfl : zk 0 = 9) (by decide)) (zd_9 E (rfl : zk 0 = 9) _) rfl (zmi inU_11) 6 (by decide) (zm flRX11_44) rfl (v := .ref (E.1 48)) (rfl) dX11_by_58 ?_
            refine z_get C0 hP (C := RX10) (T := TX10) (N := 6) (ci := 8) (index := 145) (k := 48) (ref := "WetSuitPedalsShoes$Trial") (zk_lt (rfl : zk 48 = 8) (by decide)) (zd_8 E (rfl : zk 48 = 8) _) rfl (zmi inU_10) 3 (by decide) (zm flRX11_145) rfl (v := .ref (E.1 56)) (rfl) dX11_by_61 ?_
            refine lv_iload_n hx hb dX11_by_64 rfl (lv_at hl 2 rfl) ?_
            refine z_iald C0 hP (k := 56) (i := is) (v := (m_sc r ia (-1) is)) (rfl : zk 56 = 11) (Nat.lt_of_lt_of_eq (show is < 10 by omega) (rfl : zl 56 = 10).symm) rfl dX11_by_65 ((h34 is (by omega)).1) ?_
            subst hQ_
            exact z_iret C0 hP hS (v := (m_sc r ia (-1) is)) (by exact zQc_of (k := 0) (by simp [A_by, hz_ia, hy_ia, hz_is, hy_is, c_32, d_37, c_54]) (fun k hk => hF4 k (by omega)) (hF4 _ (by decide)) (z_plk (hF4 _ (by decide)) hp)) dX11_by_66
        · skip
          have d_37 := Int32.not_le.mp c_37
          refine lv_aload_n hx hb dX11_by_40 rfl (lv_at hl 0 rfl) ?_
          refine lv_bipush (v := (-2 : Int32)) hx hb dX11_by_41 (by decide) ?_
          refine z_Vi C0 hP hD hA hS (As := [.int (-2 : Int32)]) (rest := []) (k := 0) (c_X11_refuse l E _ (-2 : Int32) 2 (by decide) (by decide) (by decide)) (cwV 1 hts (zgV zbw mlRX11_72 imX11_refuse seX11_refuse iniRX11 coX11_refuse) rfl rfl rfl (by decide +kernel) ⟨Nat.le_of_ble_eq_true rfl, Nat.le_of_ble_eq_true rfl⟩) (zk_lt (rfl : zk 0 = 9) (by decide)) (zd_9 E (rfl : zk 0 = 9) _) rfl rfl rfl hl.1 rfl (Nat.le_of_ble_eq_true rfl) dX11_by_43 ⟨Nat.zero_le _, Nat.zero_le _⟩ (fun r5 G5 H locs hw5 hP hS => ?_)
          obtain ⟨rfl, rfl⟩ := hw5
          subst hQ_
          exact z_iret C0 hP hS (v := (-2 : Int32)) (by exact zQc_of (k := 2) (by simp [A_by, hz_ia, hy_ia, hz_is, hy_is, c_32, d_37]) (fun k hk => g1_n (by omega)) (g1_s _ _ _) (z_plk (g1_n (by decide)) hp)) dX11_by_46
    · skip
      have hz_is := zin_f (by omega) hno2
      refine lv_if_ne (tgt := 31) hx hb dX11_by_22 (by decide) (fun h_ => absurd (by decide) h_) (fun _ => ?_)
      refine lv_aload_n hx hb dX11_by_25 rfl (lv_at hl 0 rfl) ?_
      refine lv_iconst (v := (-1 : Int32)) hx hb dX11_by_26 (by decide) ?_
      refine z_Vi C0 hP hD hA hS (As := [.int (-1 : Int32)]) (rest := []) (k := 0) (c_X11_refuse l E _ (-1 : Int32) 1 (by decide) (by decide) (by decide)) (cwV 1 hts (zgV zbw mlRX11_72 imX11_refuse seX11_refuse iniRX11 coX11_refuse) rfl rfl rfl (by decide +kernel) ⟨Nat.le_of_ble_eq_true rfl, Nat.le_of_ble_eq_true rfl⟩) (zk_lt (rfl : zk 0 = 9) (by decide)) (zd_9 E (rfl : zk 0 = 9) _) rfl rfl rfl hl.1 rfl (Nat.le_of_ble_eq_true rfl) dX11_by_27 ⟨Nat.zero_le _, Nat.zero_le _⟩ (fun r6 G6 H locs hw6 hP hS => ?_)
      obtain ⟨rfl, rfl⟩ := hw6
      subst hQ_
      exact z_iret C0 hP hS (v := (-1 : Int32)) (by exact zQc_of (k := 1) (by simp [A_by, hz_ia, hy_ia, hz_is]) (fun k hk => g1_n (by omega)) (g1_s _ _ _) (z_plk (g1_n (by decide)) hp)) dX11_by_30
  · skip
    have hz_ia := zin_f (by omega) hno1
    refine lv_if_eq (tgt := 25) hx hb dX11_by_8 (by decide) (fun _ => ?_) (fun h_ => absurd (by decide) h_)
    refine lv_aload_n hx hb dX11_by_25 rfl (lv_at hl 0 rfl) ?_
    refine lv_iconst (v := (-1 : Int32)) hx hb dX11_by_26 (by decide) ?_
    refine z_Vi C0 hP hD hA hS (As := [.int (-1 : Int32)]) (rest := []) (k := 0) (c_X11_refuse l E _ (-1 : Int32) 1 (by decide) (by decide) (by decide)) (cwV 1 hts (zgV zbw mlRX11_72 imX11_refuse seX11_refuse iniRX11 coX11_refuse) rfl rfl rfl (by decide +kernel) ⟨Nat.le_of_ble_eq_true rfl, Nat.le_of_ble_eq_true rfl⟩) (zk_lt (rfl : zk 0 = 9) (by decide)) (zd_9 E (rfl : zk 0 = 9) _) rfl rfl rfl hl.1 rfl (Nat.le_of_ble_eq_true rfl) dX11_by_27 ⟨Nat.zero_le _, Nat.zero_le _⟩ (fun r7 G7 H locs hw7 hP hS => ?_)
    obtain ⟨rfl, rfl⟩ := hw7
    subst hQ_
    exact z_iret C0 hP hS (v := (-1 : Int32)) (by exact zQc_of (k := 1) (by simp [A_by, hz_ia]) (fun k hk => g1_n (by omega)) (g1_s _ _ _) (z_plk (g1_n (by decide)) hp)) dX11_by_30
theorem mlRX11_158 : Cond.methodLink RX11 158 yX11_placeBehind ∈ zU := zU_m 512 (by decide +kernel) rfl
theorem coX11_placeBehind : Cond.code yX11_placeBehind cX11_placeBehind 4 (some .int) ∈ zU := zU_m 515 (by decide +kernel) rfl
theorem imX11_placeBehind : Cond.instanceMethod yX11_placeBehind ∈ zU := zU_m 514 (by decide +kernel) rfl
theorem seX11_placeBehind : Cond.selects RX11 yX11_placeBehind yX11_placeBehind ∈ zU := zU_m 11 (by decide +kernel) rfl
theorem mlRX11_154 : Cond.methodLink RX11 154 yX10_gone ∈ zU := zU_m 508 (by decide +kernel) rfl
theorem coX10_gone : Cond.code yX10_gone cX10_gone 2 (some .int) ∈ zU := zU_m 511 (by decide +kernel) rfl
theorem imX10_gone : Cond.instanceMethod yX10_gone ∈ zU := zU_m 509 (by decide +kernel) rfl
theorem seX10_gone : Cond.selects RX10 yX10_gone yX10_gone ∈ zU := zU_m 510 (by decide +kernel) rfl
set_option maxHeartbeats 4000000 in
set_option maxRecDepth 100000 in
theorem c_X11_finish (l : Launch) (E : zE) (G : zG) (r : Nat → Int32) (n na : Nat) (athlete what : Int32) (hR : zFA G 1 r n na) (hn10 : n ≤ 10) (hna : na ≤ 5) (hp : zPl G) (hkd : zKd r n) : zMi l yX11_finish wsX11_finish ({ frames := 6, cells := 0, slots := 0, locals := 134 } : Room) E G [.ref (E.1 0), .int athlete, .int what] (fun r1 G1 => zQc (A_finish r n na athlete what) G r1 G1) := by
  refine zOf (cc := cX11_finish) (nL := 4) (ret := (some .int)) RX11 (by decide) rfl rfl (Nat.le_of_ble_eq_true rfl) ?_
  intro p_ e_ s_ m_ a_ b_ me_ c_ ls C0 hP hS hl
  have hx := C0.1
  have hb := C0.2.1
  have hts := C0.2.2.2.2.1
  have hD : zD E (zA E s_.heap.size) := C0.2.2.2.2.2.2.2.2
  have hA : ∀ q : Nat, s_.heap.size ≤ q → zA E s_.heap.size q := fun q h => Or.inr h
  refine z_gen (fun Q_ hQ_ => ?_)
  have hl : lv_has ls 4 [(0, .ref (E.1 0)), (1, .int athlete), (2, .int what)] := hl
  refine lv_aload_n hx hb dX11_finish_0 rfl (lv_at hl 0 rfl) ?_
  refine z_get C0 hP (C := RX11) (T := TX11) (N := 11) (ci := 9) (index := 10) (k := 0) (ref := "WetSuitPedalsShoes") (zk_lt (rfl : zk 0 = 9) (by decide)) (zd_9 E (rfl : zk 0 = 9) _) rfl (zmi inU_11) 0 (by decide) (zm flRX11_10) rfl (v := .ref (E.1 1)) (rfl) dX11_finish_1 ?_
  refine lv_iload_n hx hb dX11_finish_4 rfl (lv_at hl 1 rfl) ?_
  refine z_Vi C0 hP hD hA hS (As := [.int athlete]) (rest := []) (k := 1) (c_X3_has l E _ 1 na athlete z_lit_Fie_1 (hR.2.1) (by omega)) (cwV 1 hts (zgV zbw mlRX11_117 imX3_has seX3_has iniRX3 coX3_has) rfl rfl rfl (by decide +kernel) ⟨Nat.le_of_ble_eq_true rfl, Nat.le_of_ble_eq_true rfl⟩) (zk_lt (rfl : zk 1 = 3) (by decide)) (zd_3 E (rfl : zk 1 = 3) _) rfl rfl rfl hl.1 rfl (Nat.le_of_ble_eq_true rfl) dX11_finish_5 ⟨Nat.zero_le _, Nat.zero_le _⟩ (fun r1 G1 H locs hw1 hP hS => ?_)
  rcases hw1 with ⟨rfl, rfl, ia, hia, rfl⟩ | ⟨rfl, rfl, hno1⟩
  · skip
    have hz_ia := zin_t hia (by omega)
    have hy_ia : zix (nI ia) = ia := zix_n (by omega)
    refine lv_if_ne (tgt := 17) hx hb dX11_finish_8 (by decide) (fun _ => ?_) (fun h_ => absurd h_ (by decide))
    refine lv_iload_n hx hb dX11_finish_17 rfl (lv_at hl 2 rfl) ?_
    refine lv_if_lt (tgt := 26) hx hb dX11_finish_18 (by decide) (fun c_18 => ?_) (fun c_18 => ?_)
    · skip
      refine lv_aload_n hx hb dX11_finish_26 rfl (lv_at hl 0 rfl) ?_
      refine lv_bipush (v := (-2 : Int32)) hx hb dX11_finish_27 (by decide) ?_
      refine z_Vi C0 hP hD hA hS (As := [.int (-2 : Int32)]) (rest := []) (k := 0) (c_X11_refuse l E _ (-2 : Int32) 2 (by decide) (by decide) (by decide)) (cwV 1 hts (zgV zbw mlRX11_72 imX11_refuse seX11_refuse iniRX11 coX11_refuse) rfl rfl rfl (by decide +kernel) ⟨Nat.le_of_ble_eq_true rfl, Nat.le_of_ble_eq_true rfl⟩) (zk_lt (rfl : zk 0 = 9) (by decide)) (zd_9 E (rfl : zk 0 = 9) _) rfl rfl rfl hl.1 rfl (Nat.le_of_ble_eq_true rfl) dX11_finish_29 ⟨Nat.zero_le _, Nat.zero_le _⟩ (fun r2 G2 H locs hw2 hP hS => ?_)
      obtain ⟨rfl, rfl⟩ := hw2
      subst hQ_
      exact z_iret C0 hP hS (v := (-2 : Int32)) (by exact zQc_of (k := 2) (by simp [A_finish, hz_ia, hy_ia, c_18]) (fun k hk => g1_n (by omega)) (g1_s _ _ _) (z_plk (g1_n (by decide)) hp)) dX11_finish_32
    · skip
      refine lv_iload_n hx hb dX11_finish_21 rfl (lv_at hl 2 rfl) ?_
      refine lv_iconst (v := (2 : Int32)) hx hb dX11_finish_22 (by decide) ?_
      refine lv_icmp_le (tgt := 33) hx hb dX11_finish_23 (by decide) (fun c_23 => ?_) (fun c_23 => ?_)
      · skip
        have d_23 := Int32.not_lt.mpr c_23
        refine lv_aload_n hx hb dX11_finish_33 rfl (lv_at hl 0 rfl) ?_
        refine lv_iload_n hx hb dX11_finish_34 rfl (lv_at hl 1 rfl) ?_
        refine z_Vi C0 hP hD hA hS (As := [.int (nI ia)]) (rest := []) (k := 0) (c_X11_runPlan l E _ r n na ia hR hkd hn10 hna (by omega)) (cwV 1 hts (zgV zbw mlRX11_142 imX11_runPlan seX11_runPlan iniRX11 coX11_runPlan) rfl rfl rfl (by decide +kernel) ⟨Nat.le_of_ble_eq_true rfl, Nat.le_of_ble_eq_true rfl⟩) (zk_lt (rfl : zk 0 = 9) (by decide)) (zd_9 E (rfl : zk 0 = 9) _) rfl rfl rfl hl.1 rfl (Nat.le_of_ble_eq_true rfl) dX11_finish_35 ⟨Nat.zero_le _, Nat.zero_le _⟩ (fun r3 G3 H locs hw3 hP hS => ?_)
        obtain ⟨hr3, hF3, hTA3, hdr3, h33⟩ := hw3
        subst hr3
        refine lv_istore_n (lv' := [(3, .int (q_fin r n ia)), (0, .ref (E.1 0)), (1, .int (nI ia)), (2, .int what)]) hx hb dX11_finish_38 rfl hl (by decide) rfl (fun ls hl => ?_)
        refine lv_iload_n hx hb dX11_finish_39 rfl (lv_at hl 3 rfl) ?_
        refine lv_if_ne (tgt := 45) hx hb dX11_finish_40 (by decide) (fun c_40 => ?_) (fun c_40 => ?_)
        · skip
          refine lv_iload_n hx hb dX11_finish_45 rfl (lv_at hl 3 rfl) ?_
          refine lv_iconst (v := (1 : Int32)) hx hb dX11_finish_46 (by decide) ?_
          refine lv_icmp_ne (tgt := 60) hx hb dX11_finish_47 (by decide) (fun c_47 => ?_) (fun c_47 => ?_)
          · skip
            refine lv_aload_n hx hb dX11_finish_60 rfl (lv_at hl 1 rfl) ?_
            refine lv_iload_n hx hb dX11_finish_61 rfl (lv_at hl 0 rfl) ?_
            refine z_Vi C0 hP hD hA hS (As := [.int (q_fin r n ia)]) (rest := []) (k := 0) (c_X11_placeBehind l E _ r n na (q_fin r n ia) (zFA_fr hR (fun k hk => hF3 k (by omega)) hna) hkd hn10 hna) (cwV 1 hts (zgV zbw mlRX11_158 imX11_placeBehind seX11_placeBehind iniRX11 coX11_placeBehind) rfl rfl rfl (by decide +kernel) ⟨Nat.le_of_ble_eq_true rfl, Nat.le_of_ble_eq_true rfl⟩) (zk_lt (rfl : zk 0 = 9) (by decide)) (zd_9 E (rfl : zk 0 = 9) _) rfl rfl rfl hl.1 rfl (Nat.le_of_ble_eq_true rfl) dX11_finish_62 ⟨Nat.zero_le _, Nat.zero_le _⟩ (fun r4 G4 H locs hw4 hP hS => ?_)
            obtain ⟨hr4, hF4⟩ := hw4
            subst hr4
            subst hQ_
            exact z_iret C0 hP hS (v := (q_place r n na (q_fin r n ia))) (by exact zQc_of (k := 0) (by simp [A_finish, hz_ia, hy_ia, c_18, d_23, c_40, c_47]) (fun k hk => (hF4 k (by omega)).trans (hF3 k (by omega))) ((hF4 _ (by decide)).trans (hF3 _ (by decide))) (z_plk ((hF4 _ (by decide)).trans (hF3 _ (by decide))) hp)) dX11_finish_65
          · skip
            refine lv_aload_n hx hb dX11_finish_50 rfl (lv_at hl 1 rfl) ?_
            refine z_get C0 hP (C := RX11) (T := TX11) (N := 11) (ci := 9) (index := 44) (k := 0) (ref := "WetSuitPedalsShoes") (zk_lt (rfl : zk 0 = 9) (by decide)) (zd_9 E (rfl : zk 0 = 9) _) rfl (zmi inU_11) 6 (by decide) (zm flRX11_44) rfl (v := .ref (E.1 48)) (rfl) dX11_finish_51 ?_
            refine z_Vi C0 hP hD hA hS (As := []) (rest := []) (k := 48) (c_X10_gone l E _ 48 n  z_lit_Tri_48 (hTA3.1) (by omega) ) (cwV 0 hts (zgV zbw mlRX11_154 imX10_gone seX10_gone iniRX10 coX10_gone) rfl rfl rfl (by decide +kernel) ⟨Nat.le_of_ble_eq_true rfl, Nat.le_of_ble_eq_true rfl⟩) (zk_lt (rfl : zk 48 = 8) (by decide)) (zd_8 E (rfl : zk 48 = 8) _) rfl rfl rfl hl.1 rfl (Nat.le_of_ble_eq_true rfl) dX11_finish_54 ⟨Nat.zero_le _, Nat.zero_le _⟩ (fun r5 G5 H locs hw5 hP hS => ?_)
            obtain ⟨hr5, rfl⟩ := hw5
            have hr5 : s_gone (q_leg r ia) n = _ := (s_gone_c (fun j hj => (h33 j hj).2.1) : (s_gone (G3 57) n) = s_gone (q_leg r ia) n).symm.trans hr5
            subst hr5
            refine lv_goto (tgt := 65) hx hb dX11_finish_57 (by decide) ?_
            subst hQ_
            exact z_iret C0 hP hS (v := (s_gone (q_leg r ia) n)) (by exact zQc_of (k := 0) (by simp [A_finish, hz_ia, hy_ia, c_18, d_23, c_40, c_47]) (fun k hk => hF3 k (by omega)) (hF3 _ (by decide)) (z_plk (hF3 _ (by decide)) hp)) dX11_finish_65
        · skip
          refine lv_iload_n hx hb dX11_finish_43 rfl (lv_at hl 0 rfl) ?_
          subst hQ_
          exact z_iret C0 hP hS (v := (q_fin r n ia)) (by exact zQc_of (k := 0) (by simp [A_finish, hz_ia, hy_ia, c_18, d_23, c_40]) (fun k hk => hF3 k (by omega)) (hF3 _ (by decide)) (z_plk (hF3 _ (by decide)) hp)) dX11_finish_44
      · skip
        have d_23 := Int32.not_le.mp c_23
        refine lv_aload_n hx hb dX11_finish_26 rfl (lv_at hl 0 rfl) ?_
        refine lv_bipush (v := (-2 : Int32)) hx hb dX11_finish_27 (by decide) ?_
        refine z_Vi C0 hP hD hA hS (As := [.int (-2 : Int32)]) (rest := []) (k := 0) (c_X11_refuse l E _ (-2 : Int32) 2 (by decide) (by decide) (by decide)) (cwV 1 hts (zgV zbw mlRX11_72 imX11_refuse seX11_refuse iniRX11 coX11_refuse) rfl rfl rfl (by decide +kernel) ⟨Nat.le_of_ble_eq_true rfl, Nat.le_of_ble_eq_true rfl⟩) (zk_lt (rfl : zk 0 = 9) (by decide)) (zd_9 E (rfl : zk 0 = 9) _) rfl rfl rfl hl.1 rfl (Nat.le_of_ble_eq_true rfl) dX11_finish_29 ⟨Nat.zero_le _, Nat.zero_le _⟩ (fun r6 G6 H locs hw6 hP hS => ?_)
        obtain ⟨rfl, rfl⟩ := hw6
        subst hQ_
        exact z_iret C0 hP hS (v := (-2 : Int32)) (by exact zQc_of (k := 2) (by simp [A_finish, hz_ia, hy_ia, c_18, d_23]) (fun k hk => g1_n (by omega)) (g1_s _ _ _) (z_plk (g1_n (by decide)) hp)) dX11_finish_32
  · skip
    have hz_ia := zin_f (by omega) hno1
    refine lv_if_ne (tgt := 17) hx hb dX11_finish_8 (by decide) (fun h_ => absurd (by decide) h_) (fun _ => ?_)
    refine lv_aload_n hx hb dX11_finish_11 rfl (lv_at hl 0 rfl) ?_
    refine lv_iconst (v := (-1 : Int32)) hx hb dX11_finish_12 (by decide) ?_
    refine z_Vi C0 hP hD hA hS (As := [.int (-1 : Int32)]) (rest := []) (k := 0) (c_X11_refuse l E _ (-1 : Int32) 1 (by decide) (by decide) (by decide)) (cwV 1 hts (zgV zbw mlRX11_72 imX11_refuse seX11_refuse iniRX11 coX11_refuse) rfl rfl rfl (by decide +kernel) ⟨Nat.le_of_ble_eq_true rfl, Nat.le_of_ble_eq_true rfl⟩) (zk_lt (rfl : zk 0 = 9) (by decide)) (zd_9 E (rfl : zk 0 = 9) _) rfl rfl rfl hl.1 rfl (Nat.le_of_ble_eq_true rfl) dX11_finish_13 ⟨Nat.zero_le _, Nat.zero_le _⟩ (fun r7 G7 H locs hw7 hP hS => ?_)
    obtain ⟨rfl, rfl⟩ := hw7
    subst hQ_
    exact z_iret C0 hP hS (v := (-1 : Int32)) (by exact zQc_of (k := 1) (by simp [A_finish, hz_ia]) (fun k hk => g1_n (by omega)) (g1_s _ _ _) (z_plk (g1_n (by decide)) hp)) dX11_finish_16
theorem mlRX11_161 : Cond.methodLink RX11 161 yX10_sectionAt ∈ zU := zU_m 520 (by decide +kernel) rfl
theorem coX10_sectionAt : Cond.code yX10_sectionAt cX10_sectionAt 3 (some .int) ∈ zU := zU_m 523 (by decide +kernel) rfl
theorem imX10_sectionAt : Cond.instanceMethod yX10_sectionAt ∈ zU := zU_m 521 (by decide +kernel) rfl
theorem seX10_sectionAt : Cond.selects RX10 yX10_sectionAt yX10_sectionAt ∈ zU := zU_m 522 (by decide +kernel) rfl
set_option maxHeartbeats 4000000 in
set_option maxRecDepth 100000 in
theorem c_X11_at (l : Launch) (E : zE) (G : zG) (r : Nat → Int32) (n na : Nat) (athlete t : Int32) (hR : zFA G 1 r n na) (hn10 : n ≤ 10) (hna : na ≤ 5) (hp : zPl G) (hkd : zKd r n) : zMi l yX11_at wsX11_at ({ frames := 5, cells := 0, slots := 0, locals := 111 } : Room) E G [.ref (E.1 0), .int athlete, .int t] (fun r1 G1 => zQc (A_at r n na athlete t) G r1 G1) := by
  refine zOf (cc := cX11_at) (nL := 3) (ret := (some .int)) RX11 (by decide) rfl rfl (Nat.le_of_ble_eq_true rfl) ?_
  intro p_ e_ s_ m_ a_ b_ me_ c_ ls C0 hP hS hl
  have hx := C0.1
  have hb := C0.2.1
  have hts := C0.2.2.2.2.1
  have hD : zD E (zA E s_.heap.size) := C0.2.2.2.2.2.2.2.2
  have hA : ∀ q : Nat, s_.heap.size ≤ q → zA E s_.heap.size q := fun q h => Or.inr h
  refine z_gen (fun Q_ hQ_ => ?_)
  have hl : lv_has ls 3 [(0, .ref (E.1 0)), (1, .int athlete), (2, .int t)] := hl
  refine lv_aload_n hx hb dX11_at_0 rfl (lv_at hl 0 rfl) ?_
  refine z_get C0 hP (C := RX11) (T := TX11) (N := 11) (ci := 9) (index := 10) (k := 0) (ref := "WetSuitPedalsShoes") (zk_lt (rfl : zk 0 = 9) (by decide)) (zd_9 E (rfl : zk 0 = 9) _) rfl (zmi inU_11) 0 (by decide) (zm flRX11_10) rfl (v := .ref (E.1 1)) (rfl) dX11_at_1 ?_
  refine lv_iload_n hx hb dX11_at_4 rfl (lv_at hl 1 rfl) ?_
  refine z_Vi C0 hP hD hA hS (As := [.int athlete]) (rest := []) (k := 1) (c_X3_has l E _ 1 na athlete z_lit_Fie_1 (hR.2.1) (by omega)) (cwV 1 hts (zgV zbw mlRX11_117 imX3_has seX3_has iniRX3 coX3_has) rfl rfl rfl (by decide +kernel) ⟨Nat.le_of_ble_eq_true rfl, Nat.le_of_ble_eq_true rfl⟩) (zk_lt (rfl : zk 1 = 3) (by decide)) (zd_3 E (rfl : zk 1 = 3) _) rfl rfl rfl hl.1 rfl (Nat.le_of_ble_eq_true rfl) dX11_at_5 ⟨Nat.zero_le _, Nat.zero_le _⟩ (fun r1 G1 H locs hw1 hP hS => ?_)
  rcases hw1 with ⟨rfl, rfl, ia, hia, rfl⟩ | ⟨rfl, rfl, hno1⟩
  · skip
    have hz_ia := zin_t hia (by omega)
    have hy_ia : zix (nI ia) = ia := zix_n (by omega)
    refine lv_if_ne (tgt := 17) hx hb dX11_at_8 (by decide) (fun _ => ?_) (fun h_ => absurd h_ (by decide))
    refine lv_iload_n hx hb dX11_at_17 rfl (lv_at hl 2 rfl) ?_
    refine lv_if_ge (tgt := 28) hx hb dX11_at_18 (by decide) (fun c_18 => ?_) (fun c_18 => ?_)
    · skip
      have d_18 := Int32.not_lt.mpr c_18
      refine lv_iload_n hx hb dX11_at_28 rfl (lv_at hl 2 rfl) ?_
      refine lv_sipush (v := (999 : Int32)) hx hb dX11_at_29 (by decide) ?_
      refine lv_icmp_le (tgt := 42) hx hb dX11_at_32 (by decide) (fun c_32 => ?_) (fun c_32 => ?_)
      · skip
        have d_32 := Int32.not_lt.mpr c_32
        refine lv_aload_n hx hb dX11_at_42 rfl (lv_at hl 0 rfl) ?_
        refine lv_iload_n hx hb dX11_at_43 rfl (lv_at hl 1 rfl) ?_
        refine z_Vi C0 hP hD hA hS (As := [.int (nI ia)]) (rest := []) (k := 0) (c_X11_runPlan l E _ r n na ia hR hkd hn10 hna (by omega)) (cwV 1 hts (zgV zbw mlRX11_142 imX11_runPlan seX11_runPlan iniRX11 coX11_runPlan) rfl rfl rfl (by decide +kernel) ⟨Nat.le_of_ble_eq_true rfl, Nat.le_of_ble_eq_true rfl⟩) (zk_lt (rfl : zk 0 = 9) (by decide)) (zd_9 E (rfl : zk 0 = 9) _) rfl rfl rfl hl.1 rfl (Nat.le_of_ble_eq_true rfl) dX11_at_44 ⟨Nat.zero_le _, Nat.zero_le _⟩ (fun r2 G2 H locs hw2 hP hS => ?_)
        obtain ⟨hr2, hF2, hTA2, hdr2, h32⟩ := hw2
        subst hr2
        refine lv_pop hx hb dX11_at_47 rfl ?_
        refine lv_aload_n hx hb dX11_at_48 rfl (lv_at hl 0 rfl) ?_
        refine z_get C0 hP (C := RX11) (T := TX11) (N := 11) (ci := 9) (index := 44) (k := 0) (ref := "WetSuitPedalsShoes") (zk_lt (rfl : zk 0 = 9) (by decide)) (zd_9 E (rfl : zk 0 = 9) _) rfl (zmi inU_11) 6 (by decide) (zm flRX11_44) rfl (v := .ref (E.1 48)) (rfl) dX11_at_49 ?_
        refine lv_iload_n hx hb dX11_at_52 rfl (lv_at hl 2 rfl) ?_
        refine z_Vi C0 hP hD hA hS (As := [.int t]) (rest := []) (k := 48) (c_X10_sectionAt l E _ 48 n t z_lit_Tri_48 (hTA2.1) (by omega) ) (cwV 1 hts (zgV zbw mlRX11_161 imX10_sectionAt seX10_sectionAt iniRX10 coX10_sectionAt) rfl rfl rfl (by decide +kernel) ⟨Nat.le_of_ble_eq_true rfl, Nat.le_of_ble_eq_true rfl⟩) (zk_lt (rfl : zk 48 = 8) (by decide)) (zd_8 E (rfl : zk 48 = 8) _) rfl rfl rfl hl.1 rfl (Nat.le_of_ble_eq_true rfl) dX11_at_53 ⟨Nat.zero_le _, Nat.zero_le _⟩ (fun r3 G3 H locs hw3 hP hS => ?_)
        obtain ⟨hr3, rfl⟩ := hw3
        have hr3 : s_at (q_all r ia) t n = _ := (s_at_c (fun j hj => (h32 j hj).2.2) : (s_at (G2 58) t n) = s_at (q_all r ia) t n).symm.trans hr3
        subst hr3
        subst hQ_
        exact z_iret C0 hP hS (v := (s_at (q_all r ia) t n)) (by exact zQc_of (k := 0) (by simp [A_at, hz_ia, hy_ia, d_18, d_32]) (fun k hk => hF2 k (by omega)) (hF2 _ (by decide)) (z_plk (hF2 _ (by decide)) hp)) dX11_at_56
      · skip
        have d_32 := Int32.not_le.mp c_32
        refine lv_aload_n hx hb dX11_at_35 rfl (lv_at hl 0 rfl) ?_
        refine lv_bipush (v := (-6 : Int32)) hx hb dX11_at_36 (by decide) ?_
        refine z_Vi C0 hP hD hA hS (As := [.int (-6 : Int32)]) (rest := []) (k := 0) (c_X11_refuse l E _ (-6 : Int32) 6 (by decide) (by decide) (by decide)) (cwV 1 hts (zgV zbw mlRX11_72 imX11_refuse seX11_refuse iniRX11 coX11_refuse) rfl rfl rfl (by decide +kernel) ⟨Nat.le_of_ble_eq_true rfl, Nat.le_of_ble_eq_true rfl⟩) (zk_lt (rfl : zk 0 = 9) (by decide)) (zd_9 E (rfl : zk 0 = 9) _) rfl rfl rfl hl.1 rfl (Nat.le_of_ble_eq_true rfl) dX11_at_38 ⟨Nat.zero_le _, Nat.zero_le _⟩ (fun r4 G4 H locs hw4 hP hS => ?_)
        obtain ⟨rfl, rfl⟩ := hw4
        subst hQ_
        exact z_iret C0 hP hS (v := (-6 : Int32)) (by exact zQc_of (k := 6) (by simp [A_at, hz_ia, hy_ia, d_18, d_32]) (fun k hk => g1_n (by omega)) (g1_s _ _ _) (z_plk (g1_n (by decide)) hp)) dX11_at_41
    · skip
      have d_18 := Int32.not_le.mp c_18
      refine lv_aload_n hx hb dX11_at_21 rfl (lv_at hl 0 rfl) ?_
      refine lv_bipush (v := (-4 : Int32)) hx hb dX11_at_22 (by decide) ?_
      refine z_Vi C0 hP hD hA hS (As := [.int (-4 : Int32)]) (rest := []) (k := 0) (c_X11_refuse l E _ (-4 : Int32) 4 (by decide) (by decide) (by decide)) (cwV 1 hts (zgV zbw mlRX11_72 imX11_refuse seX11_refuse iniRX11 coX11_refuse) rfl rfl rfl (by decide +kernel) ⟨Nat.le_of_ble_eq_true rfl, Nat.le_of_ble_eq_true rfl⟩) (zk_lt (rfl : zk 0 = 9) (by decide)) (zd_9 E (rfl : zk 0 = 9) _) rfl rfl rfl hl.1 rfl (Nat.le_of_ble_eq_true rfl) dX11_at_24 ⟨Nat.zero_le _, Nat.zero_le _⟩ (fun r5 G5 H locs hw5 hP hS => ?_)
      obtain ⟨rfl, rfl⟩ := hw5
      subst hQ_
      exact z_iret C0 hP hS (v := (-4 : Int32)) (by exact zQc_of (k := 4) (by simp [A_at, hz_ia, hy_ia, d_18]) (fun k hk => g1_n (by omega)) (g1_s _ _ _) (z_plk (g1_n (by decide)) hp)) dX11_at_27
  · skip
    have hz_ia := zin_f (by omega) hno1
    refine lv_if_ne (tgt := 17) hx hb dX11_at_8 (by decide) (fun h_ => absurd (by decide) h_) (fun _ => ?_)
    refine lv_aload_n hx hb dX11_at_11 rfl (lv_at hl 0 rfl) ?_
    refine lv_iconst (v := (-1 : Int32)) hx hb dX11_at_12 (by decide) ?_
    refine z_Vi C0 hP hD hA hS (As := [.int (-1 : Int32)]) (rest := []) (k := 0) (c_X11_refuse l E _ (-1 : Int32) 1 (by decide) (by decide) (by decide)) (cwV 1 hts (zgV zbw mlRX11_72 imX11_refuse seX11_refuse iniRX11 coX11_refuse) rfl rfl rfl (by decide +kernel) ⟨Nat.le_of_ble_eq_true rfl, Nat.le_of_ble_eq_true rfl⟩) (zk_lt (rfl : zk 0 = 9) (by decide)) (zd_9 E (rfl : zk 0 = 9) _) rfl rfl rfl hl.1 rfl (Nat.le_of_ble_eq_true rfl) dX11_at_13 ⟨Nat.zero_le _, Nat.zero_le _⟩ (fun r6 G6 H locs hw6 hP hS => ?_)
    obtain ⟨rfl, rfl⟩ := hw6
    subst hQ_
    exact z_iret C0 hP hS (v := (-1 : Int32)) (by exact zQc_of (k := 1) (by simp [A_at, hz_ia]) (fun k hk => g1_n (by omega)) (g1_s _ _ _) (z_plk (g1_n (by decide)) hp)) dX11_at_16
theorem mlRX11_205 : Cond.methodLink RX11 205 yX10_slowest ∈ zU := zU_m 625 (by decide +kernel) rfl
theorem coX10_slowest : Cond.code yX10_slowest cX10_slowest 3 (some .int) ∈ zU := zU_m 628 (by decide +kernel) rfl
theorem imX10_slowest : Cond.instanceMethod yX10_slowest ∈ zU := zU_m 626 (by decide +kernel) rfl
theorem seX10_slowest : Cond.selects RX10 yX10_slowest yX10_slowest ∈ zU := zU_m 627 (by decide +kernel) rfl
set_option maxHeartbeats 4000000 in
set_option maxRecDepth 100000 in
theorem c_X11_weakest (l : Launch) (E : zE) (G : zG) (r : Nat → Int32) (n na : Nat) (athlete : Int32) (hR : zFA G 1 r n na) (hn10 : n ≤ 10) (hna : na ≤ 5) (hp : zPl G) (hkd : zKd r n) : zMi l yX11_weakest wsX11_weakest ({ frames := 5, cells := 0, slots := 0, locals := 111 } : Room) E G [.ref (E.1 0), .int athlete] (fun r1 G1 => zQc (A_weakest r n na athlete) G r1 G1) := by
  refine zOf (cc := cX11_weakest) (nL := 2) (ret := (some .int)) RX11 (by decide) rfl rfl (Nat.le_of_ble_eq_true rfl) ?_
  intro p_ e_ s_ m_ a_ b_ me_ c_ ls C0 hP hS hl
  have hx := C0.1
  have hb := C0.2.1
  have hts := C0.2.2.2.2.1
  have hD : zD E (zA E s_.heap.size) := C0.2.2.2.2.2.2.2.2
  have hA : ∀ q : Nat, s_.heap.size ≤ q → zA E s_.heap.size q := fun q h => Or.inr h
  refine z_gen (fun Q_ hQ_ => ?_)
  have hl : lv_has ls 2 [(0, .ref (E.1 0)), (1, .int athlete)] := hl
  refine lv_aload_n hx hb dX11_weakest_0 rfl (lv_at hl 0 rfl) ?_
  refine z_get C0 hP (C := RX11) (T := TX11) (N := 11) (ci := 9) (index := 10) (k := 0) (ref := "WetSuitPedalsShoes") (zk_lt (rfl : zk 0 = 9) (by decide)) (zd_9 E (rfl : zk 0 = 9) _) rfl (zmi inU_11) 0 (by decide) (zm flRX11_10) rfl (v := .ref (E.1 1)) (rfl) dX11_weakest_1 ?_
  refine lv_iload_n hx hb dX11_weakest_4 rfl (lv_at hl 1 rfl) ?_
  refine z_Vi C0 hP hD hA hS (As := [.int athlete]) (rest := []) (k := 1) (c_X3_has l E _ 1 na athlete z_lit_Fie_1 (hR.2.1) (by omega)) (cwV 1 hts (zgV zbw mlRX11_117 imX3_has seX3_has iniRX3 coX3_has) rfl rfl rfl (by decide +kernel) ⟨Nat.le_of_ble_eq_true rfl, Nat.le_of_ble_eq_true rfl⟩) (zk_lt (rfl : zk 1 = 3) (by decide)) (zd_3 E (rfl : zk 1 = 3) _) rfl rfl rfl hl.1 rfl (Nat.le_of_ble_eq_true rfl) dX11_weakest_5 ⟨Nat.zero_le _, Nat.zero_le _⟩ (fun r1 G1 H locs hw1 hP hS => ?_)
  rcases hw1 with ⟨rfl, rfl, ia, hia, rfl⟩ | ⟨rfl, rfl, hno1⟩
  · skip
    have hz_ia := zin_t hia (by omega)
    have hy_ia : zix (nI ia) = ia := zix_n (by omega)
    refine lv_if_ne (tgt := 17) hx hb dX11_weakest_8 (by decide) (fun _ => ?_) (fun h_ => absurd h_ (by decide))
    refine lv_aload_n hx hb dX11_weakest_17 rfl (lv_at hl 0 rfl) ?_
    refine lv_iload_n hx hb dX11_weakest_18 rfl (lv_at hl 1 rfl) ?_
    refine z_Vi C0 hP hD hA hS (As := [.int (nI ia)]) (rest := []) (k := 0) (c_X11_runPlan l E _ r n na ia hR hkd hn10 hna (by omega)) (cwV 1 hts (zgV zbw mlRX11_142 imX11_runPlan seX11_runPlan iniRX11 coX11_runPlan) rfl rfl rfl (by decide +kernel) ⟨Nat.le_of_ble_eq_true rfl, Nat.le_of_ble_eq_true rfl⟩) (zk_lt (rfl : zk 0 = 9) (by decide)) (zd_9 E (rfl : zk 0 = 9) _) rfl rfl rfl hl.1 rfl (Nat.le_of_ble_eq_true rfl) dX11_weakest_19 ⟨Nat.zero_le _, Nat.zero_le _⟩ (fun r2 G2 H locs hw2 hP hS => ?_)
    obtain ⟨hr2, hF2, hTA2, hdr2, h32⟩ := hw2
    subst hr2
    refine lv_pop hx hb dX11_weakest_22 rfl ?_
    refine lv_aload_n hx hb dX11_weakest_23 rfl (lv_at hl 0 rfl) ?_
    refine z_get C0 hP (C := RX11) (T := TX11) (N := 11) (ci := 9) (index := 44) (k := 0) (ref := "WetSuitPedalsShoes") (zk_lt (rfl : zk 0 = 9) (by decide)) (zd_9 E (rfl : zk 0 = 9) _) rfl (zmi inU_11) 6 (by decide) (zm flRX11_44) rfl (v := .ref (E.1 48)) (rfl) dX11_weakest_24 ?_
    refine z_Vi C0 hP hD hA hS (As := []) (rest := []) (k := 48) (c_X10_slowest l E _ 48 n  z_lit_Tri_48 (hTA2.1) (by omega) ) (cwV 0 hts (zgV zbw mlRX11_205 imX10_slowest seX10_slowest iniRX10 coX10_slowest) rfl rfl rfl (by decide +kernel) ⟨Nat.le_of_ble_eq_true rfl, Nat.le_of_ble_eq_true rfl⟩) (zk_lt (rfl : zk 48 = 8) (by decide)) (zd_8 E (rfl : zk 48 = 8) _) rfl rfl rfl hl.1 rfl (Nat.le_of_ble_eq_true rfl) dX11_weakest_27 ⟨Nat.zero_le _, Nat.zero_le _⟩ (fun r3 G3 H locs hw3 hP hS => ?_)
    obtain ⟨hr3, rfl⟩ := hw3
    have hr3 : s_or9 (s_slow (m_sc r ia (-1)) (fun i => r (4 + 3 * i)) n) = _ := (congrArg s_or9 (s_slow_c (m := n) (fun j hj => (h32 j hj).1) (fun j hj => (hTA2.2.1 j (by omega)).2.2) (Nat.le_refl _)) : (s_or9 (s_slow (G2 56) (G2 52) n)) = s_or9 (s_slow (m_sc r ia (-1)) (fun i => r (4 + 3 * i)) n)).symm.trans hr3
    subst hr3
    subst hQ_
    exact z_iret C0 hP hS (v := (s_or9 (s_slow (m_sc r ia (-1)) (fun i => r (4 + 3 * i)) n))) (by exact zQc_of (k := 0) (by simp [A_weakest, hz_ia, hy_ia]) (fun k hk => hF2 k (by omega)) (hF2 _ (by decide)) (z_plk (hF2 _ (by decide)) hp)) dX11_weakest_30
  · skip
    have hz_ia := zin_f (by omega) hno1
    refine lv_if_ne (tgt := 17) hx hb dX11_weakest_8 (by decide) (fun h_ => absurd (by decide) h_) (fun _ => ?_)
    refine lv_aload_n hx hb dX11_weakest_11 rfl (lv_at hl 0 rfl) ?_
    refine lv_iconst (v := (-1 : Int32)) hx hb dX11_weakest_12 (by decide) ?_
    refine z_Vi C0 hP hD hA hS (As := [.int (-1 : Int32)]) (rest := []) (k := 0) (c_X11_refuse l E _ (-1 : Int32) 1 (by decide) (by decide) (by decide)) (cwV 1 hts (zgV zbw mlRX11_72 imX11_refuse seX11_refuse iniRX11 coX11_refuse) rfl rfl rfl (by decide +kernel) ⟨Nat.le_of_ble_eq_true rfl, Nat.le_of_ble_eq_true rfl⟩) (zk_lt (rfl : zk 0 = 9) (by decide)) (zd_9 E (rfl : zk 0 = 9) _) rfl rfl rfl hl.1 rfl (Nat.le_of_ble_eq_true rfl) dX11_weakest_13 ⟨Nat.zero_le _, Nat.zero_le _⟩ (fun r4 G4 H locs hw4 hP hS => ?_)
    obtain ⟨rfl, rfl⟩ := hw4
    subst hQ_
    exact z_iret C0 hP hS (v := (-1 : Int32)) (by exact zQc_of (k := 1) (by simp [A_weakest, hz_ia]) (fun k hk => g1_n (by omega)) (g1_s _ _ _) (z_plk (g1_n (by decide)) hp)) dX11_weakest_16
theorem mlRX11_208 : Cond.methodLink RX11 208 yX10_secondsOfChanges ∈ zU := zU_m 633 (by decide +kernel) rfl
theorem coX10_secondsOfChanges : Cond.code yX10_secondsOfChanges cX10_secondsOfChanges 3 (some .int) ∈ zU := zU_m 636 (by decide +kernel) rfl
theorem imX10_secondsOfChanges : Cond.instanceMethod yX10_secondsOfChanges ∈ zU := zU_m 634 (by decide +kernel) rfl
theorem seX10_secondsOfChanges : Cond.selects RX10 yX10_secondsOfChanges yX10_secondsOfChanges ∈ zU := zU_m 635 (by decide +kernel) rfl
theorem mlRX11_201 : Cond.methodLink RX11 201 yX11_finishWith ∈ zU := zU_m 616 (by decide +kernel) rfl
theorem coX11_finishWith : Cond.code yX11_finishWith cX11_finishWith 4 (some .int) ∈ zU := zU_m 619 (by decide +kernel) rfl
theorem imX11_finishWith : Cond.instanceMethod yX11_finishWith ∈ zU := zU_m 618 (by decide +kernel) rfl
theorem seX11_finishWith : Cond.selects RX11 yX11_finishWith yX11_finishWith ∈ zU := zU_m 19 (by decide +kernel) rfl
set_option maxHeartbeats 4000000 in
set_option maxRecDepth 100000 in
theorem c_X11_meadow (l : Launch) (E : zE) (G : zG) (r : Nat → Int32) (n na : Nat) (athlete what : Int32) (hR : zFA G 1 r n na) (hn10 : n ≤ 10) (hna : na ≤ 5) (hp : zPl G) (hkd : zKd r n) : zMi l yX11_meadow wsX11_meadow ({ frames := 5, cells := 0, slots := 0, locals := 113 } : Room) E G [.ref (E.1 0), .int athlete, .int what] (fun r1 G1 => zQc (A_meadow r n na athlete what) G r1 G1) := by
  refine zOf (cc := cX11_meadow) (nL := 6) (ret := (some .int)) RX11 (by decide) rfl rfl (Nat.le_of_ble_eq_true rfl) ?_
  intro p_ e_ s_ m_ a_ b_ me_ c_ ls C0 hP hS hl
  have hx := C0.1
  have hb := C0.2.1
  have hts := C0.2.2.2.2.1
  have hD : zD E (zA E s_.heap.size) := C0.2.2.2.2.2.2.2.2
  have hA : ∀ q : Nat, s_.heap.size ≤ q → zA E s_.heap.size q := fun q h => Or.inr h
  refine z_gen (fun Q_ hQ_ => ?_)
  have hl : lv_has ls 6 [(0, .ref (E.1 0)), (1, .int athlete), (2, .int what)] := hl
  refine lv_aload_n hx hb dX11_meadow_0 rfl (lv_at hl 0 rfl) ?_
  refine z_get C0 hP (C := RX11) (T := TX11) (N := 11) (ci := 9) (index := 10) (k := 0) (ref := "WetSuitPedalsShoes") (zk_lt (rfl : zk 0 = 9) (by decide)) (zd_9 E (rfl : zk 0 = 9) _) rfl (zmi inU_11) 0 (by decide) (zm flRX11_10) rfl (v := .ref (E.1 1)) (rfl) dX11_meadow_1 ?_
  refine lv_iload_n hx hb dX11_meadow_4 rfl (lv_at hl 1 rfl) ?_
  refine z_Vi C0 hP hD hA hS (As := [.int athlete]) (rest := []) (k := 1) (c_X3_has l E _ 1 na athlete z_lit_Fie_1 (hR.2.1) (by omega)) (cwV 1 hts (zgV zbw mlRX11_117 imX3_has seX3_has iniRX3 coX3_has) rfl rfl rfl (by decide +kernel) ⟨Nat.le_of_ble_eq_true rfl, Nat.le_of_ble_eq_true rfl⟩) (zk_lt (rfl : zk 1 = 3) (by decide)) (zd_3 E (rfl : zk 1 = 3) _) rfl rfl rfl hl.1 rfl (Nat.le_of_ble_eq_true rfl) dX11_meadow_5 ⟨Nat.zero_le _, Nat.zero_le _⟩ (fun r1 G1 H locs hw1 hP hS => ?_)
  rcases hw1 with ⟨rfl, rfl, ia, hia, rfl⟩ | ⟨rfl, rfl, hno1⟩
  · skip
    have hz_ia := zin_t hia (by omega)
    have hy_ia : zix (nI ia) = ia := zix_n (by omega)
    refine lv_if_ne (tgt := 17) hx hb dX11_meadow_8 (by decide) (fun _ => ?_) (fun h_ => absurd h_ (by decide))
    refine lv_iload_n hx hb dX11_meadow_17 rfl (lv_at hl 2 rfl) ?_
    refine lv_if_lt (tgt := 26) hx hb dX11_meadow_18 (by decide) (fun c_18 => ?_) (fun c_18 => ?_)
    · skip
      refine lv_aload_n hx hb dX11_meadow_26 rfl (lv_at hl 0 rfl) ?_
      refine lv_bipush (v := (-2 : Int32)) hx hb dX11_meadow_27 (by decide) ?_
      refine z_Vi C0 hP hD hA hS (As := [.int (-2 : Int32)]) (rest := []) (k := 0) (c_X11_refuse l E _ (-2 : Int32) 2 (by decide) (by decide) (by decide)) (cwV 1 hts (zgV zbw mlRX11_72 imX11_refuse seX11_refuse iniRX11 coX11_refuse) rfl rfl rfl (by decide +kernel) ⟨Nat.le_of_ble_eq_true rfl, Nat.le_of_ble_eq_true rfl⟩) (zk_lt (rfl : zk 0 = 9) (by decide)) (zd_9 E (rfl : zk 0 = 9) _) rfl rfl rfl hl.1 rfl (Nat.le_of_ble_eq_true rfl) dX11_meadow_29 ⟨Nat.zero_le _, Nat.zero_le _⟩ (fun r2 G2 H locs hw2 hP hS => ?_)
      obtain ⟨rfl, rfl⟩ := hw2
      subst hQ_
      exact z_iret C0 hP hS (v := (-2 : Int32)) (by exact zQc_of (k := 2) (by simp [A_meadow, hz_ia, hy_ia, c_18]) (fun k hk => g1_n (by omega)) (g1_s _ _ _) (z_plk (g1_n (by decide)) hp)) dX11_meadow_32
    · skip
      refine lv_iload_n hx hb dX11_meadow_21 rfl (lv_at hl 2 rfl) ?_
      refine lv_iconst (v := (1 : Int32)) hx hb dX11_meadow_22 (by decide) ?_
      refine lv_icmp_le (tgt := 33) hx hb dX11_meadow_23 (by decide) (fun c_23 => ?_) (fun c_23 => ?_)
      · skip
        have d_23 := Int32.not_lt.mpr c_23
        refine lv_aload_n hx hb dX11_meadow_33 rfl (lv_at hl 0 rfl) ?_
        refine lv_iload_n hx hb dX11_meadow_34 rfl (lv_at hl 1 rfl) ?_
        refine z_Vi C0 hP hD hA hS (As := [.int (nI ia)]) (rest := []) (k := 0) (c_X11_runPlan l E _ r n na ia hR hkd hn10 hna (by omega)) (cwV 1 hts (zgV zbw mlRX11_142 imX11_runPlan seX11_runPlan iniRX11 coX11_runPlan) rfl rfl rfl (by decide +kernel) ⟨Nat.le_of_ble_eq_true rfl, Nat.le_of_ble_eq_true rfl⟩) (zk_lt (rfl : zk 0 = 9) (by decide)) (zd_9 E (rfl : zk 0 = 9) _) rfl rfl rfl hl.1 rfl (Nat.le_of_ble_eq_true rfl) dX11_meadow_35 ⟨Nat.zero_le _, Nat.zero_le _⟩ (fun r3 G3 H locs hw3 hP hS => ?_)
        obtain ⟨hr3, hF3, hTA3, hdr3, h33⟩ := hw3
        subst hr3
        refine lv_istore_n (lv' := [(3, .int (q_fin r n ia)), (0, .ref (E.1 0)), (1, .int (nI ia)), (2, .int what)]) hx hb dX11_meadow_38 rfl hl (by decide) rfl (fun ls hl => ?_)
        refine lv_aload_n hx hb dX11_meadow_39 rfl (lv_at hl 1 rfl) ?_
        refine z_get C0 hP (C := RX11) (T := TX11) (N := 11) (ci := 9) (index := 44) (k := 0) (ref := "WetSuitPedalsShoes") (zk_lt (rfl : zk 0 = 9) (by decide)) (zd_9 E (rfl : zk 0 = 9) _) rfl (zmi inU_11) 6 (by decide) (zm flRX11_44) rfl (v := .ref (E.1 48)) (rfl) dX11_meadow_40 ?_
        refine z_Vi C0 hP hD hA hS (As := []) (rest := []) (k := 48) (c_X10_secondsOfChanges l E _ 48 n  z_lit_Tri_48 (hTA3.1) (by omega) ) (cwV 0 hts (zgV zbw mlRX11_208 imX10_secondsOfChanges seX10_secondsOfChanges iniRX10 coX10_secondsOfChanges) rfl rfl rfl (by decide +kernel) ⟨Nat.le_of_ble_eq_true rfl, Nat.le_of_ble_eq_true rfl⟩) (zk_lt (rfl : zk 48 = 8) (by decide)) (zd_8 E (rfl : zk 48 = 8) _) rfl rfl rfl hl.1 rfl (Nat.le_of_ble_eq_true rfl) dX11_meadow_43 ⟨Nat.zero_le _, Nat.zero_le _⟩ (fun r4 G4 H locs hw4 hP hS => ?_)
        obtain ⟨hr4, rfl⟩ := hw4
        have hr4 : s_chs (fun i => r (2 + 3 * i)) (m_sc r ia (-1)) n = _ := (s_chs_c (fun j hj => (hTA3.2.1 j (by omega)).1) (fun j hj => (h33 j hj).1) : (s_chs (G3 50) (G3 56) n) = s_chs (fun i => r (2 + 3 * i)) (m_sc r ia (-1)) n).symm.trans hr4
        subst hr4
        refine lv_istore (lv' := [(4, .int (s_chs (fun i => r (2 + 3 * i)) (m_sc r ia (-1)) n)), (3, .int (q_fin r n ia)), (0, .ref (E.1 0)), (1, .int (nI ia)), (2, .int what)]) hx hb dX11_meadow_46 hl (by decide) rfl (fun ls hl => ?_)
        refine lv_iload_n hx hb dX11_meadow_48 rfl (lv_at hl 4 rfl) ?_
        refine lv_if_ne (tgt := 55) hx hb dX11_meadow_49 (by decide) (fun c_49 => ?_) (fun c_49 => ?_)
        · skip
          refine lv_iload_n hx hb dX11_meadow_55 rfl (lv_at hl 1 rfl) ?_
          refine lv_aload_n hx hb dX11_meadow_56 rfl (lv_at hl 2 rfl) ?_
          refine lv_iload_n hx hb dX11_meadow_57 rfl (lv_at hl 3 rfl) ?_
          refine lv_iconst (v := (1 : Int32)) hx hb dX11_meadow_58 (by decide) ?_
          refine lv_iconst (v := (3 : Int32)) hx hb dX11_meadow_59 (by decide) ?_
          refine z_Vi C0 hP hD hA hS (As := [.int (nI ia), .int (1 : Int32), .int (3 : Int32)]) (rest := [.int (q_fin r n ia)]) (k := 0) (c_X11_finishWith l E _ r n na ia 1 (3 : Int32) (zFA_fr hR (fun k hk => hF3 k (by omega)) hna) hkd hn10 hna (by omega) (by omega)) (cwV 3 hts (zgV zbw mlRX11_201 imX11_finishWith seX11_finishWith iniRX11 coX11_finishWith) rfl rfl rfl (by decide +kernel) ⟨Nat.le_of_ble_eq_true rfl, Nat.le_of_ble_eq_true rfl⟩) (zk_lt (rfl : zk 0 = 9) (by decide)) (zd_9 E (rfl : zk 0 = 9) _) rfl rfl rfl hl.1 rfl (Nat.le_of_ble_eq_true rfl) dX11_meadow_60 ⟨Nat.zero_le _, Nat.zero_le _⟩ (fun r5 G5 H locs hw5 hP hS => ?_)
          obtain ⟨hr5, hF5⟩ := hw5
          subst hr5
          refine lv_isub hx hb dX11_meadow_63 ?_
          refine lv_istore (lv' := [(5, .int ((q_fin r n ia) - (q_with r n ia 1 (3 : Int32)))), (4, .int (s_chs (fun i => r (2 + 3 * i)) (m_sc r ia (-1)) n)), (3, .int (q_fin r n ia)), (0, .ref (E.1 0)), (1, .int (nI ia)), (2, .int what)]) hx hb dX11_meadow_64 hl (by decide) rfl (fun ls hl => ?_)
          refine lv_iload hx hb dX11_meadow_66 (lv_at hl 1 rfl) ?_
          refine lv_iload hx hb dX11_meadow_68 (lv_at hl 0 rfl) ?_
          refine lv_icmp_le (tgt := 77) hx hb dX11_meadow_70 (by decide) (fun c_70 => ?_) (fun c_70 => ?_)
          · skip
            have d_70 := Int32.not_lt.mpr c_70
            refine lv_iconst (v := (0 : Int32)) hx hb dX11_meadow_77 (by decide) ?_
            subst hQ_
            exact z_iret C0 hP hS (v := (0 : Int32)) (by exact zQc_of (k := 0) (by simp [A_meadow, hz_ia, hy_ia, c_18, d_23, c_49, d_70]) (fun k hk => (hF5 k (by omega)).trans (hF3 k (by omega))) ((hF5 _ (by decide)).trans (hF3 _ (by decide))) (z_plk ((hF5 _ (by decide)).trans (hF3 _ (by decide))) hp)) dX11_meadow_78
          · skip
            have d_70 := Int32.not_le.mp c_70
            refine lv_iconst (v := (1 : Int32)) hx hb dX11_meadow_73 (by decide) ?_
            refine lv_goto (tgt := 78) hx hb dX11_meadow_74 (by decide) ?_
            subst hQ_
            exact z_iret C0 hP hS (v := (1 : Int32)) (by exact zQc_of (k := 0) (by simp [A_meadow, hz_ia, hy_ia, c_18, d_23, c_49, d_70]) (fun k hk => (hF5 k (by omega)).trans (hF3 k (by omega))) ((hF5 _ (by decide)).trans (hF3 _ (by decide))) (z_plk ((hF5 _ (by decide)).trans (hF3 _ (by decide))) hp)) dX11_meadow_78
        · skip
          refine lv_iload hx hb dX11_meadow_52 (lv_at hl 0 rfl) ?_
          subst hQ_
          exact z_iret C0 hP hS (v := (s_chs (fun i => r (2 + 3 * i)) (m_sc r ia (-1)) n)) (by exact zQc_of (k := 0) (by simp [A_meadow, hz_ia, hy_ia, c_18, d_23, c_49]) (fun k hk => hF3 k (by omega)) (hF3 _ (by decide)) (z_plk (hF3 _ (by decide)) hp)) dX11_meadow_54
      · skip
        have d_23 := Int32.not_le.mp c_23
        refine lv_aload_n hx hb dX11_meadow_26 rfl (lv_at hl 0 rfl) ?_
        refine lv_bipush (v := (-2 : Int32)) hx hb dX11_meadow_27 (by decide) ?_
        refine z_Vi C0 hP hD hA hS (As := [.int (-2 : Int32)]) (rest := []) (k := 0) (c_X11_refuse l E _ (-2 : Int32) 2 (by decide) (by decide) (by decide)) (cwV 1 hts (zgV zbw mlRX11_72 imX11_refuse seX11_refuse iniRX11 coX11_refuse) rfl rfl rfl (by decide +kernel) ⟨Nat.le_of_ble_eq_true rfl, Nat.le_of_ble_eq_true rfl⟩) (zk_lt (rfl : zk 0 = 9) (by decide)) (zd_9 E (rfl : zk 0 = 9) _) rfl rfl rfl hl.1 rfl (Nat.le_of_ble_eq_true rfl) dX11_meadow_29 ⟨Nat.zero_le _, Nat.zero_le _⟩ (fun r6 G6 H locs hw6 hP hS => ?_)
        obtain ⟨rfl, rfl⟩ := hw6
        subst hQ_
        exact z_iret C0 hP hS (v := (-2 : Int32)) (by exact zQc_of (k := 2) (by simp [A_meadow, hz_ia, hy_ia, c_18, d_23]) (fun k hk => g1_n (by omega)) (g1_s _ _ _) (z_plk (g1_n (by decide)) hp)) dX11_meadow_32
  · skip
    have hz_ia := zin_f (by omega) hno1
    refine lv_if_ne (tgt := 17) hx hb dX11_meadow_8 (by decide) (fun h_ => absurd (by decide) h_) (fun _ => ?_)
    refine lv_aload_n hx hb dX11_meadow_11 rfl (lv_at hl 0 rfl) ?_
    refine lv_iconst (v := (-1 : Int32)) hx hb dX11_meadow_12 (by decide) ?_
    refine z_Vi C0 hP hD hA hS (As := [.int (-1 : Int32)]) (rest := []) (k := 0) (c_X11_refuse l E _ (-1 : Int32) 1 (by decide) (by decide) (by decide)) (cwV 1 hts (zgV zbw mlRX11_72 imX11_refuse seX11_refuse iniRX11 coX11_refuse) rfl rfl rfl (by decide +kernel) ⟨Nat.le_of_ble_eq_true rfl, Nat.le_of_ble_eq_true rfl⟩) (zk_lt (rfl : zk 0 = 9) (by decide)) (zd_9 E (rfl : zk 0 = 9) _) rfl rfl rfl hl.1 rfl (Nat.le_of_ble_eq_true rfl) dX11_meadow_13 ⟨Nat.zero_le _, Nat.zero_le _⟩ (fun r7 G7 H locs hw7 hP hS => ?_)
    obtain ⟨rfl, rfl⟩ := hw7
    subst hQ_
    exact z_iret C0 hP hS (v := (-1 : Int32)) (by exact zQc_of (k := 1) (by simp [A_meadow, hz_ia]) (fun k hk => g1_n (by omega)) (g1_s _ _ _) (z_plk (g1_n (by decide)) hp)) dX11_meadow_16
