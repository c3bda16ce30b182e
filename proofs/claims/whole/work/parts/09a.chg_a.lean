/-! laid by wip/whole/vcg.py -/
theorem mlRX11_130 : Cond.methodLink RX11 130 yX1_become_ ∈ zU := zU_m 434 (by decide +kernel) rfl
theorem coX1_become_ : Cond.code yX1_become_ cX1_become_ 4 none ∈ zU := zU_m 437 (by decide +kernel) rfl
theorem imX1_become_ : Cond.instanceMethod yX1_become_ ∈ zU := zU_m 435 (by decide +kernel) rfl
theorem seX1_become_ : Cond.selects RX1 yX1_become_ yX1_become_ ∈ zU := zU_m 436 (by decide +kernel) rfl
set_option maxHeartbeats 4000000 in
set_option maxRecDepth 100000 in
theorem c_X11_turn (l : Launch) (E : zE) (G : zG) (r : Nat → Int32) (n na : Nat) (sect kind figure : Int32) (hR : zFA G 1 r n na) (hn10 : n ≤ 10) (hna : na ≤ 5) (hp : zPl G) : zMi l yX11_turn wsX11_turn ({ frames := 2, cells := 0, slots := 0, locals := 44 } : Room) E G [.ref (E.1 0), .int sect, .int kind, .int figure] (fun r1 G1 => zUc (U_turn r n sect kind figure) n na G r1 G1) := by
  refine zOf (cc := cX11_turn) (nL := 5) (ret := (some .int)) RX11 (by decide) rfl rfl (Nat.le_of_ble_eq_true rfl) ?_
  intro p_ e_ s_ m_ a_ b_ me_ c_ ls C0 hP hS hl
  have hx := C0.1
  have hb := C0.2.1
  have hts := C0.2.2.2.2.1
  have hD : zD E (zA E s_.heap.size) := C0.2.2.2.2.2.2.2.2
  have hA : ∀ q : Nat, s_.heap.size ≤ q → zA E s_.heap.size q := fun q h => Or.inr h
  refine z_gen (fun Q_ hQ_ => ?_)
  have hl : lv_has ls 5 [(0, .ref (E.1 0)), (1, .int sect), (2, .int kind), (3, .int figure)] := hl
  refine lv_aload_n hx hb dX11_turn_0 rfl (lv_at hl 0 rfl) ?_
  refine z_get C0 hP (C := RX11) (T := TX11) (N := 11) (ci := 9) (index := 10) (k := 0) (ref := "WetSuitPedalsShoes") (zk_lt (rfl : zk 0 = 9) (by decide)) (zd_9 E (rfl : zk 0 = 9) _) rfl (zmi inU_11) 0 (by decide) (zm flRX11_10) rfl (v := .ref (E.1 1)) (rfl) dX11_turn_1 ?_
  refine z_get C0 hP (C := RX3) (T := TX3) (N := 3) (ci := 3) (index := 93) (k := 1) (ref := "WetSuitPedalsShoes$Field") (zk_lt (rfl : zk 1 = 3) (by decide)) (zd_3 E (rfl : zk 1 = 3) _) rfl (zmi inU_3) 0 (by decide) (zm flRX11_93) rfl (v := .ref (E.1 2)) (rfl) dX11_turn_4 ?_
  refine lv_iload_n hx hb dX11_turn_7 rfl (lv_at hl 1 rfl) ?_
  refine z_Vi C0 hP hD hA hS (As := [.int sect]) (rest := []) (k := 2) (c_X1_has l E _ 2 n sect z_lit_Cou_2 (hR.1) (by omega)) (cwV 1 hts (zgV zbw mlRX11_97 imX1_has seX1_has iniRX1 coX1_has) rfl rfl rfl (by decide +kernel) ⟨Nat.le_of_ble_eq_true rfl, Nat.le_of_ble_eq_true rfl⟩) (zk_lt (rfl : zk 2 = 1) (by decide)) (zd_1 E (rfl : zk 2 = 1) _) rfl rfl rfl hl.1 rfl (Nat.le_of_ble_eq_true rfl) dX11_turn_8 ⟨Nat.zero_le _, Nat.zero_le _⟩ (fun r1 G1 H locs hw1 hP hS => ?_)
  rcases hw1 with ⟨rfl, rfl, is, his, rfl⟩ | ⟨rfl, rfl, hno1⟩
  · skip
    have hz_is := zin_t his (by omega)
    have hy_is : zix (nI is) = is := zix_n (by omega)
    refine lv_if_ne (tgt := 20) hx hb dX11_turn_11 (by decide) (fun _ => ?_) (fun h_ => absurd h_ (by decide))
    refine lv_iload_n hx hb dX11_turn_20 rfl (lv_at hl 2 rfl) ?_
    refine lv_if_lt (tgt := 30) hx hb dX11_turn_21 (by decide) (fun c_21 => ?_) (fun c_21 => ?_)
    · skip
      refine lv_aload_n hx hb dX11_turn_30 rfl (lv_at hl 0 rfl) ?_
      refine lv_bipush (v := (-2 : Int32)) hx hb dX11_turn_31 (by decide) ?_
      refine z_Vi C0 hP hD hA hS (As := [.int (-2 : Int32)]) (rest := []) (k := 0) (c_X11_refuse l E _ (-2 : Int32) 2 (by decide) (by decide) (by decide)) (cwV 1 hts (zgV zbw mlRX11_72 imX11_refuse seX11_refuse iniRX11 coX11_refuse) rfl rfl rfl (by decide +kernel) ⟨Nat.le_of_ble_eq_true rfl, Nat.le_of_ble_eq_true rfl⟩) (zk_lt (rfl : zk 0 = 9) (by decide)) (zd_9 E (rfl : zk 0 = 9) _) rfl rfl rfl hl.1 rfl (Nat.le_of_ble_eq_true rfl) dX11_turn_33 ⟨Nat.zero_le _, Nat.zero_le _⟩ (fun r2 G2 H locs hw2 hP hS => ?_)
      obtain ⟨rfl, rfl⟩ := hw2
      subst hQ_
      exact z_iret C0 hP hS (v := (-2 : Int32)) (by exact zUc_of (k := 2) (by simp [U_turn, hz_is, hy_is, c_21]) (zFA_47 hR hna) (fun k hk => g1_n (by omega)) (g1_s _ _ _) (z_plk (g1_n (by decide)) hp)) dX11_turn_36
    · skip
      refine lv_iload_n hx hb dX11_turn_24 rfl (lv_at hl 2 rfl) ?_
      refine lv_bipush (v := (7 : Int32)) hx hb dX11_turn_25 (by decide) ?_
      refine lv_icmp_lt (tgt := 37) hx hb dX11_turn_27 (by decide) (fun c_27 => ?_) (fun c_27 => ?_)
      · skip
        have e_27 := z_67 c_27
        refine lv_iload_n hx hb dX11_turn_37 rfl (lv_at hl 3 rfl) ?_
        refine lv_if_ge (tgt := 48) hx hb dX11_turn_38 (by decide) (fun c_38 => ?_) (fun c_38 => ?_)
        · skip
          have d_38 := Int32.not_lt.mpr c_38
          refine lv_iload_n hx hb dX11_turn_48 rfl (lv_at hl 3 rfl) ?_
          refine lv_bipush (v := (9 : Int32)) hx hb dX11_turn_49 (by decide) ?_
          refine lv_icmp_le (tgt := 61) hx hb dX11_turn_51 (by decide) (fun c_51 => ?_) (fun c_51 => ?_)
          · skip
            have d_51 := Int32.not_lt.mpr c_51
            refine lv_bipush (v := (10 : Int32)) hx hb dX11_turn_61 (by decide) ?_
            refine lv_aload_n hx hb dX11_turn_63 rfl (lv_at hl 0 rfl) ?_
            refine z_get C0 hP (C := RX11) (T := TX11) (N := 11) (ci := 9) (index := 10) (k := 0) (ref := "WetSuitPedalsShoes") (zk_lt (rfl : zk 0 = 9) (by decide)) (zd_9 E (rfl : zk 0 = 9) _) rfl (zmi inU_11) 0 (by decide) (zm flRX11_10) rfl (v := .ref (E.1 1)) (rfl) dX11_turn_64 ?_
            refine z_get C0 hP (C := RX3) (T := TX3) (N := 3) (ci := 3) (index := 93) (k := 1) (ref := "WetSuitPedalsShoes$Field") (zk_lt (rfl : zk 1 = 3) (by decide)) (zd_3 E (rfl : zk 1 = 3) _) rfl (zmi inU_3) 0 (by decide) (zm flRX11_93) rfl (v := .ref (E.1 2)) (rfl) dX11_turn_67 ?_
            refine z_get C0 hP (C := RX1) (T := TX1) (N := 4) (ci := 1) (index := 103) (k := 2) (ref := "WetSuitPedalsShoes$Course") (zk_lt (rfl : zk 2 = 1) (by decide)) (zd_1 E (rfl : zk 2 = 1) _) rfl (zmi inU_1) 1 (by decide) (zm flRX11_103) rfl (v := .ref (E.1 3)) (rfl) dX11_turn_70 ?_
            refine lv_iload_n hx hb dX11_turn_73 rfl (lv_at hl 1 rfl) ?_
            refine z_iald C0 hP (k := 3) (i := is) (v := (r (2 + 3 * is))) (rfl : zk 3 = 11) (Nat.lt_of_lt_of_eq (show is < 10 by omega) (rfl : zl 3 = 10).symm) rfl dX11_turn_74 ((hR.2.2.1 is (by omega)).1) ?_
            refine lv_imul hx hb dX11_turn_75 ?_
            refine lv_aload_n hx hb dX11_turn_76 rfl (lv_at hl 0 rfl) ?_
            refine z_get C0 hP (C := RX11) (T := TX11) (N := 11) (ci := 9) (index := 10) (k := 0) (ref := "WetSuitPedalsShoes") (zk_lt (rfl : zk 0 = 9) (by decide)) (zd_9 E (rfl : zk 0 = 9) _) rfl (zmi inU_11) 0 (by decide) (zm flRX11_10) rfl (v := .ref (E.1 1)) (rfl) dX11_turn_77 ?_
            refine z_get C0 hP (C := RX3) (T := TX3) (N := 3) (ci := 3) (index := 93) (k := 1) (ref := "WetSuitPedalsShoes$Field") (zk_lt (rfl : zk 1 = 3) (by decide)) (zd_3 E (rfl : zk 1 = 3) _) rfl (zmi inU_3) 0 (by decide) (zm flRX11_93) rfl (v := .ref (E.1 2)) (rfl) dX11_turn_80 ?_
            refine z_get C0 hP (C := RX1) (T := TX1) (N := 4) (ci := 1) (index := 106) (k := 2) (ref := "WetSuitPedalsShoes$Course") (zk_lt (rfl : zk 2 = 1) (by decide)) (zd_1 E (rfl : zk 2 = 1) _) rfl (zmi inU_1) 2 (by decide) (zm flRX11_106) rfl (v := .ref (E.1 4)) (rfl) dX11_turn_83 ?_
            refine lv_iload_n hx hb dX11_turn_86 rfl (lv_at hl 1 rfl) ?_
            refine z_iald C0 hP (k := 4) (i := is) (v := (r (3 + 3 * is))) (rfl : zk 4 = 11) (Nat.lt_of_lt_of_eq (show is < 10 by omega) (rfl : zl 4 = 10).symm) rfl dX11_turn_87 ((hR.2.2.1 is (by omega)).2.1) ?_
            refine lv_iadd hx hb dX11_turn_88 ?_
            refine lv_istore (lv' := [(4, .int (((10 : Int32) * (r (2 + 3 * is))) + (r (3 + 3 * is)))), (0, .ref (E.1 0)), (1, .int (nI is)), (2, .int kind), (3, .int figure)]) hx hb dX11_turn_89 hl (by decide) rfl (fun ls hl => ?_)
            refine lv_aload_n hx hb dX11_turn_91 rfl (lv_at hl 1 rfl) ?_
            refine z_get C0 hP (C := RX11) (T := TX11) (N := 11) (ci := 9) (index := 10) (k := 0) (ref := "WetSuitPedalsShoes") (zk_lt (rfl : zk 0 = 9) (by decide)) (zd_9 E (rfl : zk 0 = 9) _) rfl (zmi inU_11) 0 (by decide) (zm flRX11_10) rfl (v := .ref (E.1 1)) (rfl) dX11_turn_92 ?_
            refine z_get C0 hP (C := RX3) (T := TX3) (N := 3) (ci := 3) (index := 93) (k := 1) (ref := "WetSuitPedalsShoes$Field") (zk_lt (rfl : zk 1 = 3) (by decide)) (zd_3 E (rfl : zk 1 = 3) _) rfl (zmi inU_3) 0 (by decide) (zm flRX11_93) rfl (v := .ref (E.1 2)) (rfl) dX11_turn_95 ?_
            refine lv_iload_n hx hb dX11_turn_98 rfl (lv_at hl 2 rfl) ?_
            refine lv_iload_n hx hb dX11_turn_99 rfl (lv_at hl 3 rfl) ?_
            refine lv_iload_n hx hb dX11_turn_100 rfl (lv_at hl 4 rfl) ?_
            refine z_Vv C0 hP hD hA hS (As := [.int (nI is), .int kind, .int figure]) (rest := []) (k := 2) (c_X1_become_ l E _ 2 n is kind figure z_lit_Cou_2 (hR.1) (by omega) (by omega)) (cwV 3 hts (zgV zbw mlRX11_130 imX1_become_ seX1_become_ iniRX1 coX1_become_) rfl rfl rfl (by decide +kernel) ⟨Nat.le_of_ble_eq_true rfl, Nat.le_of_ble_eq_true rfl⟩) (zk_lt (rfl : zk 2 = 1) (by decide)) (zd_1 E (rfl : zk 2 = 1) _) rfl rfl rfl hl.1 rfl (Nat.le_of_ble_eq_true rfl) dX11_turn_101 ⟨Nat.zero_le _, Nat.zero_le _⟩ (fun G3 H locs hw3 hP hS => ?_)
            obtain rfl := hw3
            refine lv_iload hx hb dX11_turn_104 (lv_at hl 0 rfl) ?_
            subst hQ_
            exact z_iret C0 hP hS (v := (((10 : Int32) * (r (2 + 3 * is))) + (r (3 + 3 * is)))) (by exact zUc_of (k := 0) (by simp [U_turn, hz_is, hy_is, c_21, c_27, e_27, d_38, d_51]) (zFA_turn hR hna (by omega)) (fun k hk => (g1_n (by omega)).trans (g1_n (by omega))) ((g1_n (by decide)).trans (g1_n (by decide))) (z_plk ((g1_n (by decide)).trans (g1_n (by decide))) hp)) dX11_turn_106
          · skip
            have d_51 := Int32.not_le.mp c_51
            refine lv_aload_n hx hb dX11_turn_54 rfl (lv_at hl 0 rfl) ?_
            refine lv_bipush (v := (-6 : Int32)) hx hb dX11_turn_55 (by decide) ?_
            refine z_Vi C0 hP hD hA hS (As := [.int (-6 : Int32)]) (rest := []) (k := 0) (c_X11_refuse l E _ (-6 : Int32) 6 (by decide) (by decide) (by decide)) (cwV 1 hts (zgV zbw mlRX11_72 imX11_refuse seX11_refuse iniRX11 coX11_refuse) rfl rfl rfl (by decide +kernel) ⟨Nat.le_of_ble_eq_true rfl, Nat.le_of_ble_eq_true rfl⟩) (zk_lt (rfl : zk 0 = 9) (by decide)) (zd_9 E (rfl : zk 0 = 9) _) rfl rfl rfl hl.1 rfl (Nat.le_of_ble_eq_true rfl) dX11_turn_57 ⟨Nat.zero_le _, Nat.zero_le _⟩ (fun r4 G4 H locs hw4 hP hS => ?_)
            obtain ⟨rfl, rfl⟩ := hw4
            subst hQ_
            exact z_iret C0 hP hS (v := (-6 : Int32)) (by exact zUc_of (k := 6) (by simp [U_turn, hz_is, hy_is, c_21, c_27, e_27, d_38, d_51]) (zFA_47 hR hna) (fun k hk => g1_n (by omega)) (g1_s _ _ _) (z_plk (g1_n (by decide)) hp)) dX11_turn_60
        · skip
          have d_38 := Int32.not_le.mp c_38
          refine lv_aload_n hx hb dX11_turn_41 rfl (lv_at hl 0 rfl) ?_
          refine lv_bipush (v := (-4 : Int32)) hx hb dX11_turn_42 (by decide) ?_
          refine z_Vi C0 hP hD hA hS (As := [.int (-4 : Int32)]) (rest := []) (k := 0) (c_X11_refuse l E _ (-4 : Int32) 4 (by decide) (by decide) (by decide)) (cwV 1 hts (zgV zbw mlRX11_72 imX11_refuse seX11_refuse iniRX11 coX11_refuse) rfl rfl rfl (by decide +kernel) ⟨Nat.le_of_ble_eq_true rfl, Nat.le_of_ble_eq_true rfl⟩) (zk_lt (rfl : zk 0 = 9) (by decide)) (zd_9 E (rfl : zk 0 = 9) _) rfl rfl rfl hl.1 rfl (Nat.le_of_ble_eq_true rfl) dX11_turn_44 ⟨Nat.zero_le _, Nat.zero_le _⟩ (fun r5 G5 H locs hw5 hP hS => ?_)
          obtain ⟨rfl, rfl⟩ := hw5
          subst hQ_
          exact z_iret C0 hP hS (v := (-4 : Int32)) (by exact zUc_of (k := 4) (by simp [U_turn, hz_is, hy_is, c_21, c_27, e_27, d_38]) (zFA_47 hR hna) (fun k hk => g1_n (by omega)) (g1_s _ _ _) (z_plk (g1_n (by decide)) hp)) dX11_turn_47
      · skip
        have e_27 := z_67n c_27
        refine lv_aload_n hx hb dX11_turn_30 rfl (lv_at hl 0 rfl) ?_
        refine lv_bipush (v := (-2 : Int32)) hx hb dX11_turn_31 (by decide) ?_
        refine z_Vi C0 hP hD hA hS (As := [.int (-2 : Int32)]) (rest := []) (k := 0) (c_X11_refuse l E _ (-2 : Int32) 2 (by decide) (by decide) (by decide)) (cwV 1 hts (zgV zbw mlRX11_72 imX11_refuse seX11_refuse iniRX11 coX11_refuse) rfl rfl rfl (by decide +kernel) ⟨Nat.le_of_ble_eq_true rfl, Nat.le_of_ble_eq_true rfl⟩) (zk_lt (rfl : zk 0 = 9) (by decide)) (zd_9 E (rfl : zk 0 = 9) _) rfl rfl rfl hl.1 rfl (Nat.le_of_ble_eq_true rfl) dX11_turn_33 ⟨Nat.zero_le _, Nat.zero_le _⟩ (fun r6 G6 H locs hw6 hP hS => ?_)
        obtain ⟨rfl, rfl⟩ := hw6
        subst hQ_
        exact z_iret C0 hP hS (v := (-2 : Int32)) (by exact zUc_of (k := 2) (by simp [U_turn, hz_is, hy_is, c_21, c_27, e_27]) (zFA_47 hR hna) (fun k hk => g1_n (by omega)) (g1_s _ _ _) (z_plk (g1_n (by decide)) hp)) dX11_turn_36
  · skip
    have hz_is := zin_f (by omega) hno1
    refine lv_if_ne (tgt := 20) hx hb dX11_turn_11 (by decide) (fun h_ => absurd (by decide) h_) (fun _ => ?_)
    refine lv_aload_n hx hb dX11_turn_14 rfl (lv_at hl 0 rfl) ?_
    refine lv_iconst (v := (-1 : Int32)) hx hb dX11_turn_15 (by decide) ?_
    refine z_Vi C0 hP hD hA hS (As := [.int (-1 : Int32)]) (rest := []) (k := 0) (c_X11_refuse l E _ (-1 : Int32) 1 (by decide) (by decide) (by decide)) (cwV 1 hts (zgV zbw mlRX11_72 imX11_refuse seX11_refuse iniRX11 coX11_refuse) rfl rfl rfl (by decide +kernel) ⟨Nat.le_of_ble_eq_true rfl, Nat.le_of_ble_eq_true rfl⟩) (zk_lt (rfl : zk 0 = 9) (by decide)) (zd_9 E (rfl : zk 0 = 9) _) rfl rfl rfl hl.1 rfl (Nat.le_of_ble_eq_true rfl) dX11_turn_16 ⟨Nat.zero_le _, Nat.zero_le _⟩ (fun r7 G7 H locs hw7 hP hS => ?_)
    obtain ⟨rfl, rfl⟩ := hw7
    subst hQ_
    exact z_iret C0 hP hS (v := (-1 : Int32)) (by exact zUc_of (k := 1) (by simp [U_turn, hz_is]) (zFA_47 hR hna) (fun k hk => g1_n (by omega)) (g1_s _ _ _) (z_plk (g1_n (by decide)) hp)) dX11_turn_19
theorem mlRX11_134 : Cond.methodLink RX11 134 yX1_exchange ∈ zU := zU_m 442 (by decide +kernel) rfl
theorem coX1_exchange : Cond.code yX1_exchange cX1_exchange 3 none ∈ zU := zU_m 401 (by decide +kernel) rfl
theorem imX1_exchange : Cond.instanceMethod yX1_exchange ∈ zU := zU_m 399 (by decide +kernel) rfl
theorem seX1_exchange : Cond.selects RX1 yX1_exchange yX1_exchange ∈ zU := zU_m 400 (by decide +kernel) rfl
theorem flRX11_138 : Cond.fieldLink RX11 138 "WetSuitPedalsShoes$Course" "many" "I" ∈ zU := zU_m 87 (by decide +kernel) rfl
set_option maxHeartbeats 4000000 in
set_option maxRecDepth 100000 in
theorem c_X11_swap (l : Launch) (E : zE) (G : zG) (r : Nat → Int32) (n na : Nat) (one other : Int32) (hR : zFA G 1 r n na) (hn10 : n ≤ 10) (hna : na ≤ 5) (hp : zPl G) : zMi l yX11_swap wsX11_swap ({ frames := 2, cells := 0, slots := 0, locals := 45 } : Room) E G [.ref (E.1 0), .int one, .int other] (fun r1 G1 => zUc (U_swap r n one other) n na G r1 G1) := by
  refine zOf (cc := cX11_swap) (nL := 3) (ret := (some .int)) RX11 (by decide) rfl rfl (Nat.le_of_ble_eq_true rfl) ?_
  intro p_ e_ s_ m_ a_ b_ me_ c_ ls C0 hP hS hl
  have hx := C0.1
  have hb := C0.2.1
  have hts := C0.2.2.2.2.1
  have hD : zD E (zA E s_.heap.size) := C0.2.2.2.2.2.2.2.2
  have hA : ∀ q : Nat, s_.heap.size ≤ q → zA E s_.heap.size q := fun q h => Or.inr h
  refine z_gen (fun Q_ hQ_ => ?_)
  have hl : lv_has ls 3 [(0, .ref (E.1 0)), (1, .int one), (2, .int other)] := hl
  refine lv_aload_n hx hb dX11_swap_0 rfl (lv_at hl 0 rfl) ?_
  refine z_get C0 hP (C := RX11) (T := TX11) (N := 11) (ci := 9) (index := 10) (k := 0) (ref := "WetSuitPedalsShoes") (zk_lt (rfl : zk 0 = 9) (by decide)) (zd_9 E (rfl : zk 0 = 9) _) rfl (zmi inU_11) 0 (by decide) (zm flRX11_10) rfl (v := .ref (E.1 1)) (rfl) dX11_swap_1 ?_
  refine z_get C0 hP (C := RX3) (T := TX3) (N := 3) (ci := 3) (index := 93) (k := 1) (ref := "WetSuitPedalsShoes$Field") (zk_lt (rfl : zk 1 = 3) (by decide)) (zd_3 E (rfl : zk 1 = 3) _) rfl (zmi inU_3) 0 (by decide) (zm flRX11_93) rfl (v := .ref (E.1 2)) (rfl) dX11_swap_4 ?_
  refine lv_iload_n hx hb dX11_swap_7 rfl (lv_at hl 1 rfl) ?_
  refine z_Vi C0 hP hD hA hS (As := [.int one]) (rest := []) (k := 2) (c_X1_has l E _ 2 n one z_lit_Cou_2 (hR.1) (by omega)) (cwV 1 hts (zgV zbw mlRX11_97 imX1_has seX1_has iniRX1 coX1_has) rfl rfl rfl (by decide +kernel) ⟨Nat.le_of_ble_eq_true rfl, Nat.le_of_ble_eq_true rfl⟩) (zk_lt (rfl : zk 2 = 1) (by decide)) (zd_1 E (rfl : zk 2 = 1) _) rfl rfl rfl hl.1 rfl (Nat.le_of_ble_eq_true rfl) dX11_swap_8 ⟨Nat.zero_le _, Nat.zero_le _⟩ (fun r1 G1 H locs hw1 hP hS => ?_)
  rcases hw1 with ⟨rfl, rfl, io, hio, rfl⟩ | ⟨rfl, rfl, hno1⟩
  · skip
    have hz_io := zin_t hio (by omega)
    have hy_io : zix (nI io) = io := zix_n (by omega)
    refine lv_if_eq (tgt := 33) hx hb dX11_swap_11 (by decide) (fun h_ => absurd h_ (by decide)) (fun _ => ?_)
    refine lv_aload_n hx hb dX11_swap_14 rfl (lv_at hl 0 rfl) ?_
    refine z_get C0 hP (C := RX11) (T := TX11) (N := 11) (ci := 9) (index := 10) (k := 0) (ref := "WetSuitPedalsShoes") (zk_lt (rfl : zk 0 = 9) (by decide)) (zd_9 E (rfl : zk 0 = 9) _) rfl (zmi inU_11) 0 (by decide) (zm flRX11_10) rfl (v := .ref (E.1 1)) (rfl) dX11_swap_15 ?_
    refine z_get C0 hP (C := RX3) (T := TX3) (N := 3) (ci := 3) (index := 93) (k := 1) (ref := "WetSuitPedalsShoes$Field") (zk_lt (rfl : zk 1 = 3) (by decide)) (zd_3 E (rfl : zk 1 = 3) _) rfl (zmi inU_3) 0 (by decide) (zm flRX11_93) rfl (v := .ref (E.1 2)) (rfl) dX11_swap_18 ?_
    refine lv_iload_n hx hb dX11_swap_21 rfl (lv_at hl 2 rfl) ?_
    refine z_Vi C0 hP hD hA hS (As := [.int other]) (rest := []) (k := 2) (c_X1_has l E _ 2 n other z_lit_Cou_2 (hR.1) (by omega)) (cwV 1 hts (zgV zbw mlRX11_97 imX1_has seX1_has iniRX1 coX1_has) rfl rfl rfl (by decide +kernel) ⟨Nat.le_of_ble_eq_true rfl, Nat.le_of_ble_eq_true rfl⟩) (zk_lt (rfl : zk 2 = 1) (by decide)) (zd_1 E (rfl : zk 2 = 1) _) rfl rfl rfl hl.1 rfl (Nat.le_of_ble_eq_true rfl) dX11_swap_22 ⟨Nat.zero_le _, Nat.zero_le _⟩ (fun r2 G2 H locs hw2 hP hS => ?_)
    rcases hw2 with ⟨rfl, rfl, ip, hip, rfl⟩ | ⟨rfl, rfl, hno2⟩
    · skip
      have hz_ip := zin_t hip (by omega)
      have hy_ip : zix (nI ip) = ip := zix_n (by omega)
      refine lv_if_eq (tgt := 33) hx hb dX11_swap_25 (by decide) (fun h_ => absurd h_ (by decide)) (fun _ => ?_)
      refine lv_iload_n hx hb dX11_swap_28 rfl (lv_at hl 1 rfl) ?_
      refine lv_iload_n hx hb dX11_swap_29 rfl (lv_at hl 2 rfl) ?_
      refine z_N_ne hx hb (a := io) (b := ip) (tgt := 39) dX11_swap_30 rfl rfl (by omega) (by omega) (by decide) (fun c_30 => ?_) (fun c_30 => ?_)
      · skip
        have hne_ : ¬ nI io = nI ip := fun q => c_30 ((nI_eq (by omega) (by omega)).mp q)
        refine lv_aload_n hx hb dX11_swap_39 rfl (lv_at hl 0 rfl) ?_
        refine z_get C0 hP (C := RX11) (T := TX11) (N := 11) (ci := 9) (index := 10) (k := 0) (ref := "WetSuitPedalsShoes") (zk_lt (rfl : zk 0 = 9) (by decide)) (zd_9 E (rfl : zk 0 = 9) _) rfl (zmi inU_11) 0 (by decide) (zm flRX11_10) rfl (v := .ref (E.1 1)) (rfl) dX11_swap_40 ?_
        refine z_get C0 hP (C := RX3) (T := TX3) (N := 3) (ci := 3) (index := 93) (k := 1) (ref := "WetSuitPedalsShoes$Field") (zk_lt (rfl : zk 1 = 3) (by decide)) (zd_3 E (rfl : zk 1 = 3) _) rfl (zmi inU_3) 0 (by decide) (zm flRX11_93) rfl (v := .ref (E.1 2)) (rfl) dX11_swap_43 ?_
        refine lv_iload_n hx hb dX11_swap_46 rfl (lv_at hl 1 rfl) ?_
        refine lv_iload_n hx hb dX11_swap_47 rfl (lv_at hl 2 rfl) ?_
        refine z_Vv C0 hP hD hA hS (As := [.int (nI io), .int (nI ip)]) (rest := []) (k := 2) (c_X1_exchange l E _ 2 n io ip z_lit_Cou_2 (hR.1) (by omega) (by omega) (by omega)) (cwV 2 hts (zgV zbw mlRX11_134 imX1_exchange seX1_exchange iniRX1 coX1_exchange) rfl rfl rfl (by decide +kernel) ⟨Nat.le_of_ble_eq_true rfl, Nat.le_of_ble_eq_true rfl⟩) (zk_lt (rfl : zk 2 = 1) (by decide)) (zd_1 E (rfl : zk 2 = 1) _) rfl rfl rfl hl.1 rfl (Nat.le_of_ble_eq_true rfl) dX11_swap_48 ⟨Nat.zero_le _, Nat.zero_le _⟩ (fun G3 H locs hw3 hP hS => ?_)
        obtain rfl := hw3
        refine lv_aload_n hx hb dX11_swap_51 rfl (lv_at hl 0 rfl) ?_
        refine z_get C0 hP (C := RX11) (T := TX11) (N := 11) (ci := 9) (index := 10) (k := 0) (ref := "WetSuitPedalsShoes") (zk_lt (rfl : zk 0 = 9) (by decide)) (zd_9 E (rfl : zk 0 = 9) _) rfl (zmi inU_11) 0 (by decide) (zm flRX11_10) rfl (v := .ref (E.1 1)) (rfl) dX11_swap_52 ?_
        refine z_get C0 hP (C := RX3) (T := TX3) (N := 3) (ci := 3) (index := 93) (k := 1) (ref := "WetSuitPedalsShoes$Field") (zk_lt (rfl : zk 1 = 3) (by decide)) (zd_3 E (rfl : zk 1 = 3) _) rfl (zmi inU_3) 0 (by decide) (zm flRX11_93) rfl (v := .ref (E.1 2)) (rfl) dX11_swap_55 ?_
        refine z_get C0 hP (C := RX1) (T := TX1) (N := 4) (ci := 1) (index := 138) (k := 2) (ref := "WetSuitPedalsShoes$Course") (zk_lt (rfl : zk 2 = 1) (by decide)) (zd_1 E (rfl : zk 2 = 1) _) rfl (zmi inU_1) 0 (by decide) (zm flRX11_138) rfl (v := .int (nI n)) (congrArg (fun z => some (Value.int z)) ((congrFun ((g1_n (by decide)).trans ((g1_n (by decide)).trans (g1_n (by decide)))) _).trans (hR.1))) dX11_swap_58 ?_
        subst hQ_
        exact z_iret C0 hP hS (v := (nI n)) (by exact zUc_of (k := 0) (by simp [U_swap, hz_io, hy_io, hz_ip, hy_ip, c_30, hne_]) (zFA_swap hR hna (by omega) (by omega) (by omega)) (fun k hk => (g1_n (by omega)).trans ((g1_n (by omega)).trans (g1_n (by omega)))) ((g1_n (by decide)).trans ((g1_n (by decide)).trans (g1_n (by decide)))) (z_plk ((g1_n (by decide)).trans ((g1_n (by decide)).trans (g1_n (by decide)))) hp)) dX11_swap_61
      · skip
        have hne_ : nI io = nI ip := congrArg nI c_30
        refine lv_aload_n hx hb dX11_swap_33 rfl (lv_at hl 0 rfl) ?_
        refine lv_iconst (v := (-1 : Int32)) hx hb dX11_swap_34 (by decide) ?_
        refine z_Vi C0 hP hD hA hS (As := [.int (-1 : Int32)]) (rest := []) (k := 0) (c_X11_refuse l E _ (-1 : Int32) 1 (by decide) (by decide) (by decide)) (cwV 1 hts (zgV zbw mlRX11_72 imX11_refuse seX11_refuse iniRX11 coX11_refuse) rfl rfl rfl (by decide +kernel) ⟨Nat.le_of_ble_eq_true rfl, Nat.le_of_ble_eq_true rfl⟩) (zk_lt (rfl : zk 0 = 9) (by decide)) (zd_9 E (rfl : zk 0 = 9) _) rfl rfl rfl hl.1 rfl (Nat.le_of_ble_eq_true rfl) dX11_swap_35 ⟨Nat.zero_le _, Nat.zero_le _⟩ (fun r4 G4 H locs hw4 hP hS => ?_)
        obtain ⟨rfl, rfl⟩ := hw4
        subst hQ_
        exact z_iret C0 hP hS (v := (-1 : Int32)) (by exact zUc_of (k := 1) (by simp [U_swap, hz_io, hy_io, hz_ip, hy_ip, c_30, hne_]) (zFA_47 hR hna) (fun k hk => g1_n (by omega)) (g1_s _ _ _) (z_plk (g1_n (by decide)) hp)) dX11_swap_38
    · skip
      have hz_ip := zin_f (by omega) hno2
      refine lv_if_eq (tgt := 33) hx hb dX11_swap_25 (by decide) (fun _ => ?_) (fun h_ => absurd (by decide) h_)
      refine lv_aload_n hx hb dX11_swap_33 rfl (lv_at hl 0 rfl) ?_
      refine lv_iconst (v := (-1 : Int32)) hx hb dX11_swap_34 (by decide) ?_
      refine z_Vi C0 hP hD hA hS (As := [.int (-1 : Int32)]) (rest := []) (k := 0) (c_X11_refuse l E _ (-1 : Int32) 1 (by decide) (by decide) (by decide)) (cwV 1 hts (zgV zbw mlRX11_72 imX11_refuse seX11_refuse iniRX11 coX11_refuse) rfl rfl rfl (by decide +kernel) ⟨Nat.le_of_ble_eq_true rfl, Nat.le_of_ble_eq_true rfl⟩) (zk_lt (rfl : zk 0 = 9) (by decide)) (zd_9 E (rfl : zk 0 = 9) _) rfl rfl rfl hl.1 rfl (Nat.le_of_ble_eq_true rfl) dX11_swap_35 ⟨Nat.zero_le _, Nat.zero_le _⟩ (fun r5 G5 H locs hw5 hP hS => ?_)
      obtain ⟨rfl, rfl⟩ := hw5
      subst hQ_
      exact z_iret C0 hP hS (v := (-1 : Int32)) (by exact zUc_of (k := 1) (by simp [U_swap, hz_io, hy_io, hz_ip]) (zFA_47 hR hna) (fun k hk => g1_n (by omega)) (g1_s _ _ _) (z_plk (g1_n (by decide)) hp)) dX11_swap_38
  · skip
    have hz_io := zin_f (by omega) hno1
    refine lv_if_eq (tgt := 33) hx hb dX11_swap_11 (by decide) (fun _ => ?_) (fun h_ => absurd (by decide) h_)
    refine lv_aload_n hx hb dX11_swap_33 rfl (lv_at hl 0 rfl) ?_
    refine lv_iconst (v := (-1 : Int32)) hx hb dX11_swap_34 (by decide) ?_
    refine z_Vi C0 hP hD hA hS (As := [.int (-1 : Int32)]) (rest := []) (k := 0) (c_X11_refuse l E _ (-1 : Int32) 1 (by decide) (by decide) (by decide)) (cwV 1 hts (zgV zbw mlRX11_72 imX11_refuse seX11_refuse iniRX11 coX11_refuse) rfl rfl rfl (by decide +kernel) ⟨Nat.le_of_ble_eq_true rfl, Nat.le_of_ble_eq_true rfl⟩) (zk_lt (rfl : zk 0 = 9) (by decide)) (zd_9 E (rfl : zk 0 = 9) _) rfl rfl rfl hl.1 rfl (Nat.le_of_ble_eq_true rfl) dX11_swap_35 ⟨Nat.zero_le _, Nat.zero_le _⟩ (fun r6 G6 H locs hw6 hP hS => ?_)
    obtain ⟨rfl, rfl⟩ := hw6
    subst hQ_
    exact z_iret C0 hP hS (v := (-1 : Int32)) (by exact zUc_of (k := 1) (by simp [U_swap, hz_io]) (zFA_47 hR hna) (fun k hk => g1_n (by omega)) (g1_s _ _ _) (z_plk (g1_n (by decide)) hp)) dX11_swap_38
set_option maxHeartbeats 4000000 in
set_option maxRecDepth 100000 in
theorem c_X11_skill (l : Launch) (E : zE) (G : zG) (r : Nat → Int32) (n na : Nat) (athlete what v : Int32) (hR : zFA G 1 r n na) (hn10 : n ≤ 10) (hna : na ≤ 5) (hp : zPl G) : zMi l yX11_skill wsX11_skill ({ frames := 1, cells := 0, slots := 0, locals := 22 } : Room) E G [.ref (E.1 0), .int athlete, .int what, .int v] (fun r1 G1 => zUc (U_skill r na athlete what v) n na G r1 G1) := by
  refine zOf (cc := cX11_skill) (nL := 5) (ret := (some .int)) RX11 (by decide) rfl rfl (Nat.le_of_ble_eq_true rfl) ?_
  intro p_ e_ s_ m_ a_ b_ me_ c_ ls C0 hP hS hl
  have hx := C0.1
  have hb := C0.2.1
  have hts := C0.2.2.2.2.1
  have hD : zD E (zA E s_.heap.size) := C0.2.2.2.2.2.2.2.2
  have hA : ∀ q : Nat, s_.heap.size ≤ q → zA E s_.heap.size q := fun q h => Or.inr h
  refine z_gen (fun Q_ hQ_ => ?_)
  have hl : lv_has ls 5 [(0, .ref (E.1 0)), (1, .int athlete), (2, .int what), (3, .int v)] := hl
  refine lv_aload_n hx hb dX11_skill_0 rfl (lv_at hl 0 rfl) ?_
  refine z_get C0 hP (C := RX11) (T := TX11) (N := 11) (ci := 9) (index := 10) (k := 0) (ref := "WetSuitPedalsShoes") (zk_lt (rfl : zk 0 = 9) (by decide)) (zd_9 E (rfl : zk 0 = 9) _) rfl (zmi inU_11) 0 (by decide) (zm flRX11_10) rfl (v := .ref (E.1 1)) (rfl) dX11_skill_1 ?_
  refine lv_iload_n hx hb dX11_skill_4 rfl (lv_at hl 1 rfl) ?_
  refine z_Vi C0 hP hD hA hS (As := [.int athlete]) (rest := []) (k := 1) (c_X3_has l E _ 1 na athlete z_lit_Fie_1 (hR.2.1) (by omega)) (cwV 1 hts (zgV zbw mlRX11_117 imX3_has seX3_has iniRX3 coX3_has) rfl rfl rfl (by decide +kernel) ⟨Nat.le_of_ble_eq_true rfl, Nat.le_of_ble_eq_true rfl⟩) (zk_lt (rfl : zk 1 = 3) (by decide)) (zd_3 E (rfl : zk 1 = 3) _) rfl rfl rfl hl.1 rfl (Nat.le_of_ble_eq_true rfl) dX11_skill_5 ⟨Nat.zero_le _, Nat.zero_le _⟩ (fun r1 G1 H locs hw1 hP hS => ?_)
  rcases hw1 with ⟨rfl, rfl, ia, hia, rfl⟩ | ⟨rfl, rfl, hno1⟩
  · skip
    have hz_ia := zin_t hia (by omega)
    have hy_ia : zix (nI ia) = ia := zix_n (by omega)
    refine lv_if_ne (tgt := 17) hx hb dX11_skill_8 (by decide) (fun _ => ?_) (fun h_ => absurd h_ (by decide))
    refine lv_iload_n hx hb dX11_skill_17 rfl (lv_at hl 2 rfl) ?_
    refine lv_if_lt (tgt := 26) hx hb dX11_skill_18 (by decide) (fun c_18 => ?_) (fun c_18 => ?_)
    · skip
      refine lv_aload_n hx hb dX11_skill_26 rfl (lv_at hl 0 rfl) ?_
      refine lv_bipush (v := (-2 : Int32)) hx hb dX11_skill_27 (by decide) ?_
      refine z_Vi C0 hP hD hA hS (As := [.int (-2 : Int32)]) (rest := []) (k := 0) (c_X11_refuse l E _ (-2 : Int32) 2 (by decide) (by decide) (by decide)) (cwV 1 hts (zgV zbw mlRX11_72 imX11_refuse seX11_refuse iniRX11 coX11_refuse) rfl rfl rfl (by decide +kernel) ⟨Nat.le_of_ble_eq_true rfl, Nat.le_of_ble_eq_true rfl⟩) (zk_lt (rfl : zk 0 = 9) (by decide)) (zd_9 E (rfl : zk 0 = 9) _) rfl rfl rfl hl.1 rfl (Nat.le_of_ble_eq_true rfl) dX11_skill_29 ⟨Nat.zero_le _, Nat.zero_le _⟩ (fun r2 G2 H locs hw2 hP hS => ?_)
      obtain ⟨rfl, rfl⟩ := hw2
      subst hQ_
      exact z_iret C0 hP hS (v := (-2 : Int32)) (by exact zUc_of (k := 2) (by simp [U_skill, hz_ia, hy_ia, c_18]) (zFA_47 hR hna) (fun k hk => g1_n (by omega)) (g1_s _ _ _) (z_plk (g1_n (by decide)) hp)) dX11_skill_32
    · skip
      refine lv_iload_n hx hb dX11_skill_21 rfl (lv_at hl 2 rfl) ?_
      refine lv_iconst (v := (3 : Int32)) hx hb dX11_skill_22 (by decide) ?_
      refine lv_icmp_le (tgt := 33) hx hb dX11_skill_23 (by decide) (fun c_23 => ?_) (fun c_23 => ?_)
      · skip
        have d_23 := Int32.not_lt.mpr c_23
        obtain ⟨wh, hwh, rfl⟩ := z_rng (m := 4) c_18 c_23 (by decide) (by decide)
        have hy_wh : zix (nI wh) = wh := zix_n (by omega)
        refine lv_iload_n hx hb dX11_skill_33 rfl (lv_at hl 3 rfl) ?_
        refine lv_if_ge (tgt := 44) hx hb dX11_skill_34 (by decide) (fun c_34 => ?_) (fun c_34 => ?_)
        · skip
          have d_34 := Int32.not_lt.mpr c_34
          refine lv_iload_n hx hb dX11_skill_44 rfl (lv_at hl 3 rfl) ?_
          refine lv_iload_n hx hb dX11_skill_45 rfl (lv_at hl 2 rfl) ?_
          refine lv_iconst (v := (3 : Int32)) hx hb dX11_skill_46 (by decide) ?_
          refine lv_icmp_ne (tgt := 55) hx hb dX11_skill_47 (by decide) (fun c_47 => ?_) (fun c_47 => ?_)
          · skip
            refine lv_bipush (v := (9 : Int32)) hx hb dX11_skill_55 (by decide) ?_
            refine lv_icmp_le (tgt := 67) hx hb dX11_skill_57 (by decide) (fun c_57 => ?_) (fun c_57 => ?_)
            · skip
              have d_57 := Int32.not_lt.mpr c_57
              refine lv_aload_n hx hb dX11_skill_67 rfl (lv_at hl 0 rfl) ?_
              refine z_get C0 hP (C := RX11) (T := TX11) (N := 11) (ci := 9) (index := 10) (k := 0) (ref := "WetSuitPedalsShoes") (zk_lt (rfl : zk 0 = 9) (by decide)) (zd_9 E (rfl : zk 0 = 9) _) rfl (zmi inU_11) 0 (by decide) (zm flRX11_10) rfl (v := .ref (E.1 1)) (rfl) dX11_skill_68 ?_
              refine z_get C0 hP (C := RX3) (T := TX3) (N := 3) (ci := 3) (index := 118) (k := 1) (ref := "WetSuitPedalsShoes$Field") (zk_lt (rfl : zk 1 = 3) (by decide)) (zd_3 E (rfl : zk 1 = 3) _) rfl (zmi inU_3) 1 (by decide) (zm flRX11_118) rfl (v := .ref (E.1 6)) (rfl) dX11_skill_71 ?_
              refine lv_iload_n hx hb dX11_skill_74 rfl (lv_at hl 1 rfl) ?_
              refine z_aald C0 hP (k := 6) (i := ia) (rfl : zk 6 = 12) (by omega) rfl dX11_skill_75 (fun at_3 hat_3 => ?_)
              have kat_3 : zIs at_3 tAth := hat_3 ▸ zIs_ath z_lit_Fie_1 (by omega)
              refine z_get C0 hP (C := RX0) (T := TX0) (N := 2) (ci := 0) (index := 122) (k := at_3) (ref := "WetSuitPedalsShoes$Athlete") (zk_lt (kat_3 (0, 0, 2) (by decide)).1 (by decide)) (zd_0 E (kat_3 (0, 0, 2) (by decide)).1 _) rfl (zmi inU_0) 0 (by decide) (zm flRX11_122) rfl (v := .ref (E.1 (at_3 + 1))) (rfl) dX11_skill_76 ?_
              refine lv_iload_n hx hb dX11_skill_79 rfl (lv_at hl 2 rfl) ?_
              refine z_iald C0 hP (k := (at_3 + 1)) (i := wh) (v := (r (32 + 4 * ia + wh))) (kat_3 (1, 11, 4) (by decide)).1 (Nat.lt_of_lt_of_eq (show wh < 4 by omega) (kat_3 (1, 11, 4) (by decide)).2.symm) rfl dX11_skill_80 (z_ab hR hat_3 (by omega) (by omega)) ?_
              refine lv_istore (lv' := [(4, .int (r (32 + 4 * ia + wh))), (0, .ref (E.1 0)), (1, .int (nI ia)), (2, .int (nI wh)), (3, .int v)]) hx hb dX11_skill_81 hl (by decide) rfl (fun ls hl => ?_)
              refine lv_aload_n hx hb dX11_skill_83 rfl (lv_at hl 1 rfl) ?_
              refine z_get C0 hP (C := RX11) (T := TX11) (N := 11) (ci := 9) (index := 10) (k := 0) (ref := "WetSuitPedalsShoes") (zk_lt (rfl : zk 0 = 9) (by decide)) (zd_9 E (rfl : zk 0 = 9) _) rfl (zmi inU_11) 0 (by decide) (zm flRX11_10) rfl (v := .ref (E.1 1)) (rfl) dX11_skill_84 ?_
              refine z_get C0 hP (C := RX3) (T := TX3) (N := 3) (ci := 3) (index := 118) (k := 1) (ref := "WetSuitPedalsShoes$Field") (zk_lt (rfl : zk 1 = 3) (by decide)) (zd_3 E (rfl : zk 1 = 3) _) rfl (zmi inU_3) 1 (by decide) (zm flRX11_118) rfl (v := .ref (E.1 6)) (rfl) dX11_skill_87 ?_
              refine lv_iload_n hx hb dX11_skill_90 rfl (lv_at hl 2 rfl) ?_
              refine z_aald C0 hP (k := 6) (i := ia) (rfl : zk 6 = 12) (by omega) rfl dX11_skill_91 (fun at_4 hat_4 => ?_)
              have kat_4 : zIs at_4 tAth := hat_4 ▸ zIs_ath z_lit_Fie_1 (by omega)
              refine z_get C0 hP (C := RX0) (T := TX0) (N := 2) (ci := 0) (index := 122) (k := at_4) (ref := "WetSuitPedalsShoes$Athlete") (zk_lt (kat_4 (0, 0, 2) (by decide)).1 (by decide)) (zd_0 E (kat_4 (0, 0, 2) (by decide)).1 _) rfl (zmi inU_0) 0 (by decide) (zm flRX11_122) rfl (v := .ref (E.1 (at_4 + 1))) (rfl) dX11_skill_92 ?_
              refine lv_iload_n hx hb dX11_skill_95 rfl (lv_at hl 3 rfl) ?_
              refine lv_iload_n hx hb dX11_skill_96 rfl (lv_at hl 4 rfl) ?_
              refine z_iast C0 hP hD hS (k := (at_4 + 1)) (i := wh) (v := v) (F := G (at_4 + 1)) (rfl) (kat_4 (1, 11, 4) (by decide)).1 (Nat.lt_of_lt_of_eq (show wh < 4 by omega) (kat_4 (1, 11, 4) (by decide)).2.symm) rfl dX11_skill_97 (fun H locs hP hS => ?_)
              refine lv_iload hx hb dX11_skill_98 (lv_at hl 0 rfl) ?_
              subst hQ_
              exact z_iret C0 hP hS (v := (r (32 + 4 * ia + wh))) (by exact zUc_of (k := 0) (by simp [U_skill, hz_ia, hy_ia, c_18, d_23, hy_wh, d_34, c_47, d_57]) (zFA_skill hR hat_4 hna (by omega) (by omega)) (fun k hk => g1_n (by omega)) (g1_n (by omega)) (z_plk (g1_n (by omega)) hp)) dX11_skill_100
            · skip
              have d_57 := Int32.not_le.mp c_57
              refine lv_aload_n hx hb dX11_skill_60 rfl (lv_at hl 0 rfl) ?_
              refine lv_bipush (v := (-6 : Int32)) hx hb dX11_skill_61 (by decide) ?_
              refine z_Vi C0 hP hD hA hS (As := [.int (-6 : Int32)]) (rest := []) (k := 0) (c_X11_refuse l E _ (-6 : Int32) 6 (by decide) (by decide) (by decide)) (cwV 1 hts (zgV zbw mlRX11_72 imX11_refuse seX11_refuse iniRX11 coX11_refuse) rfl rfl rfl (by decide +kernel) ⟨Nat.le_of_ble_eq_true rfl, Nat.le_of_ble_eq_true rfl⟩) (zk_lt (rfl : zk 0 = 9) (by decide)) (zd_9 E (rfl : zk 0 = 9) _) rfl rfl rfl hl.1 rfl (Nat.le_of_ble_eq_true rfl) dX11_skill_63 ⟨Nat.zero_le _, Nat.zero_le _⟩ (fun r5 G5 H locs hw5 hP hS => ?_)
              obtain ⟨rfl, rfl⟩ := hw5
              subst hQ_
              exact z_iret C0 hP hS (v := (-6 : Int32)) (by exact zUc_of (k := 6) (by simp [U_skill, hz_ia, hy_ia, c_18, d_23, hy_wh, d_34, c_47, d_57]) (zFA_47 hR hna) (fun k hk => g1_n (by omega)) (g1_s _ _ _) (z_plk (g1_n (by decide)) hp)) dX11_skill_66
          · skip
            have e_47 := (show zix 3 = wh from by rw [← c_47]; exact hy_wh)
            refine lv_bipush (v := (99 : Int32)) hx hb dX11_skill_50 (by decide) ?_
            refine lv_goto (tgt := 57) hx hb dX11_skill_52 (by decide) ?_
            refine lv_icmp_le (tgt := 67) hx hb dX11_skill_57 (by decide) (fun c_57 => ?_) (fun c_57 => ?_)
            · skip
              have d_57 := Int32.not_lt.mpr c_57
              refine lv_aload_n hx hb dX11_skill_67 rfl (lv_at hl 0 rfl) ?_
              refine z_get C0 hP (C := RX11) (T := TX11) (N := 11) (ci := 9) (index := 10) (k := 0) (ref := "WetSuitPedalsShoes") (zk_lt (rfl : zk 0 = 9) (by decide)) (zd_9 E (rfl : zk 0 = 9) _) rfl (zmi inU_11) 0 (by decide) (zm flRX11_10) rfl (v := .ref (E.1 1)) (rfl) dX11_skill_68 ?_
              refine z_get C0 hP (C := RX3) (T := TX3) (N := 3) (ci := 3) (index := 118) (k := 1) (ref := "WetSuitPedalsShoes$Field") (zk_lt (rfl : zk 1 = 3) (by decide)) (zd_3 E (rfl : zk 1 = 3) _) rfl (zmi inU_3) 1 (by decide) (zm flRX11_118) rfl (v := .ref (E.1 6)) (rfl) dX11_skill_71 ?_
              refine lv_iload_n hx hb dX11_skill_74 rfl (lv_at hl 1 rfl) ?_
              refine z_aald C0 hP (k := 6) (i := ia) (rfl : zk 6 = 12) (by omega) rfl dX11_skill_75 (fun at_6 hat_6 => ?_)
              have kat_6 : zIs at_6 tAth := hat_6 ▸ zIs_ath z_lit_Fie_1 (by omega)
              refine z_get C0 hP (C := RX0) (T := TX0) (N := 2) (ci := 0) (index := 122) (k := at_6) (ref := "WetSuitPedalsShoes$Athlete") (zk_lt (kat_6 (0, 0, 2) (by decide)).1 (by decide)) (zd_0 E (kat_6 (0, 0, 2) (by decide)).1 _) rfl (zmi inU_0) 0 (by decide) (zm flRX11_122) rfl (v := .ref (E.1 (at_6 + 1))) (rfl) dX11_skill_76 ?_
              refine lv_iload_n hx hb dX11_skill_79 rfl (lv_at hl 2 rfl) ?_
              refine z_iald C0 hP (k := (at_6 + 1)) (i := wh) (v := (r (32 + 4 * ia + wh))) (kat_6 (1, 11, 4) (by decide)).1 (Nat.lt_of_lt_of_eq (show wh < 4 by omega) (kat_6 (1, 11, 4) (by decide)).2.symm) rfl dX11_skill_80 (z_ab hR hat_6 (by omega) (by omega)) ?_
              refine lv_istore (lv' := [(4, .int (r (32 + 4 * ia + wh))), (0, .ref (E.1 0)), (1, .int (nI ia)), (2, .int (nI wh)), (3, .int v)]) hx hb dX11_skill_81 hl (by decide) rfl (fun ls hl => ?_)
              refine lv_aload_n hx hb dX11_skill_83 rfl (lv_at hl 1 rfl) ?_
              refine z_get C0 hP (C := RX11) (T := TX11) (N := 11) (ci := 9) (index := 10) (k := 0) (ref := "WetSuitPedalsShoes") (zk_lt (rfl : zk 0 = 9) (by decide)) (zd_9 E (rfl : zk 0 = 9) _) rfl (zmi inU_11) 0 (by decide) (zm flRX11_10) rfl (v := .ref (E.1 1)) (rfl) dX11_skill_84 ?_
              refine z_get C0 hP (C := RX3) (T := TX3) (N := 3) (ci := 3) (index := 118) (k := 1) (ref := "WetSuitPedalsShoes$Field") (zk_lt (rfl : zk 1 = 3) (by decide)) (zd_3 E (rfl : zk 1 = 3) _) rfl (zmi inU_3) 1 (by decide) (zm flRX11_118) rfl (v := .ref (E.1 6)) (rfl) dX11_skill_87 ?_
              refine lv_iload_n hx hb dX11_skill_90 rfl (lv_at hl 2 rfl) ?_
              refine z_aald C0 hP (k := 6) (i := ia) (rfl : zk 6 = 12) (by omega) rfl dX11_skill_91 (fun at_7 hat_7 => ?_)
              have kat_7 : zIs at_7 tAth := hat_7 ▸ zIs_ath z_lit_Fie_1 (by omega)
              refine z_get C0 hP (C := RX0) (T := TX0) (N := 2) (ci := 0) (index := 122) (k := at_7) (ref := "WetSuitPedalsShoes$Athlete") (zk_lt (kat_7 (0, 0, 2) (by decide)).1 (by decide)) (zd_0 E (kat_7 (0, 0, 2) (by decide)).1 _) rfl (zmi inU_0) 0 (by decide) (zm flRX11_122) rfl (v := .ref (E.1 (at_7 + 1))) (rfl) dX11_skill_92 ?_
              refine lv_iload_n hx hb dX11_skill_95 rfl (lv_at hl 3 rfl) ?_
              refine lv_iload_n hx hb dX11_skill_96 rfl (lv_at hl 4 rfl) ?_
              refine z_iast C0 hP hD hS (k := (at_7 + 1)) (i := wh) (v := v) (F := G (at_7 + 1)) (rfl) (kat_7 (1, 11, 4) (by decide)).1 (Nat.lt_of_lt_of_eq (show wh < 4 by omega) (kat_7 (1, 11, 4) (by decide)).2.symm) rfl dX11_skill_97 (fun H locs hP hS => ?_)
              refine lv_iload hx hb dX11_skill_98 (lv_at hl 0 rfl) ?_
              subst hQ_
              exact z_iret C0 hP hS (v := (r (32 + 4 * ia + wh))) (by exact zUc_of (k := 0) (by simp [U_skill, hz_ia, hy_ia, c_18, d_23, hy_wh, d_34, c_47, e_47, d_57]) (zFA_skill hR hat_7 hna (by omega) (by omega)) (fun k hk => g1_n (by omega)) (g1_n (by omega)) (z_plk (g1_n (by omega)) hp)) dX11_skill_100
            · skip
              have d_57 := Int32.not_le.mp c_57
              refine lv_aload_n hx hb dX11_skill_60 rfl (lv_at hl 0 rfl) ?_
              refine lv_bipush (v := (-6 : Int32)) hx hb dX11_skill_61 (by decide) ?_
              refine z_Vi C0 hP hD hA hS (As := [.int (-6 : Int32)]) (rest := []) (k := 0) (c_X11_refuse l E _ (-6 : Int32) 6 (by decide) (by decide) (by decide)) (cwV 1 hts (zgV zbw mlRX11_72 imX11_refuse seX11_refuse iniRX11 coX11_refuse) rfl rfl rfl (by decide +kernel) ⟨Nat.le_of_ble_eq_true rfl, Nat.le_of_ble_eq_true rfl⟩) (zk_lt (rfl : zk 0 = 9) (by decide)) (zd_9 E (rfl : zk 0 = 9) _) rfl rfl rfl hl.1 rfl (Nat.le_of_ble_eq_true rfl) dX11_skill_63 ⟨Nat.zero_le _, Nat.zero_le _⟩ (fun r8 G8 H locs hw8 hP hS => ?_)
              obtain ⟨rfl, rfl⟩ := hw8
              subst hQ_
              exact z_iret C0 hP hS (v := (-6 : Int32)) (by exact zUc_of (k := 6) (by simp [U_skill, hz_ia, hy_ia, c_18, d_23, hy_wh, d_34, c_47, e_47, d_57]) (zFA_47 hR hna) (fun k hk => g1_n (by omega)) (g1_s _ _ _) (z_plk (g1_n (by decide)) hp)) dX11_skill_66
        · skip
          have d_34 := Int32.not_le.mp c_34
          refine lv_aload_n hx hb dX11_skill_37 rfl (lv_at hl 0 rfl) ?_
          refine lv_bipush (v := (-4 : Int32)) hx hb dX11_skill_38 (by decide) ?_
          refine z_Vi C0 hP hD hA hS (As := [.int (-4 : Int32)]) (rest := []) (k := 0) (c_X11_refuse l E _ (-4 : Int32) 4 (by decide) (by decide) (by decide)) (cwV 1 hts (zgV zbw mlRX11_72 imX11_refuse seX11_refuse iniRX11 coX11_refuse) rfl rfl rfl (by decide +kernel) ⟨Nat.le_of_ble_eq_true rfl, Nat.le_of_ble_eq_true rfl⟩) (zk_lt (rfl : zk 0 = 9) (by decide)) (zd_9 E (rfl : zk 0 = 9) _) rfl rfl rfl hl.1 rfl (Nat.le_of_ble_eq_true rfl) dX11_skill_40 ⟨Nat.zero_le _, Nat.zero_le _⟩ (fun r9 G9 H locs hw9 hP hS => ?_)
          obtain ⟨rfl, rfl⟩ := hw9
          subst hQ_
          exact z_iret C0 hP hS (v := (-4 : Int32)) (by exact zUc_of (k := 4) (by simp [U_skill, hz_ia, hy_ia, c_18, d_23, hy_wh, d_34]) (zFA_47 hR hna) (fun k hk => g1_n (by omega)) (g1_s _ _ _) (z_plk (g1_n (by decide)) hp)) dX11_skill_43
      · skip
        have d_23 := Int32.not_le.mp c_23
        refine lv_aload_n hx hb dX11_skill_26 rfl (lv_at hl 0 rfl) ?_
        refine lv_bipush (v := (-2 : Int32)) hx hb dX11_skill_27 (by decide) ?_
        refine z_Vi C0 hP hD hA hS (As := [.int (-2 : Int32)]) (rest := []) (k := 0) (c_X11_refuse l E _ (-2 : Int32) 2 (by decide) (by decide) (by decide)) (cwV 1 hts (zgV zbw mlRX11_72 imX11_refuse seX11_refuse iniRX11 coX11_refuse) rfl rfl rfl (by decide +kernel) ⟨Nat.le_of_ble_eq_true rfl, Nat.le_of_ble_eq_true rfl⟩) (zk_lt (rfl : zk 0 = 9) (by decide)) (zd_9 E (rfl : zk 0 = 9) _) rfl rfl rfl hl.1 rfl (Nat.le_of_ble_eq_true rfl) dX11_skill_29 ⟨Nat.zero_le _, Nat.zero_le _⟩ (fun r10 G10 H locs hw10 hP hS => ?_)
        obtain ⟨rfl, rfl⟩ := hw10
        subst hQ_
        exact z_iret C0 hP hS (v := (-2 : Int32)) (by exact zUc_of (k := 2) (by simp [U_skill, hz_ia, hy_ia, c_18, d_23]) (zFA_47 hR hna) (fun k hk => g1_n (by omega)) (g1_s _ _ _) (z_plk (g1_n (by decide)) hp)) dX11_skill_32
  · skip
    have hz_ia := zin_f (by omega) hno1
    refine lv_if_ne (tgt := 17) hx hb dX11_skill_8 (by decide) (fun h_ => absurd (by decide) h_) (fun _ => ?_)
    refine lv_aload_n hx hb dX11_skill_11 rfl (lv_at hl 0 rfl) ?_
    refine lv_iconst (v := (-1 : Int32)) hx hb dX11_skill_12 (by decide) ?_
    refine z_Vi C0 hP hD hA hS (As := [.int (-1 : Int32)]) (rest := []) (k := 0) (c_X11_refuse l E _ (-1 : Int32) 1 (by decide) (by decide) (by decide)) (cwV 1 hts (zgV zbw mlRX11_72 imX11_refuse seX11_refuse iniRX11 coX11_refuse) rfl rfl rfl (by decide +kernel) ⟨Nat.le_of_ble_eq_true rfl, Nat.le_of_ble_eq_true rfl⟩) (zk_lt (rfl : zk 0 = 9) (by decide)) (zd_9 E (rfl : zk 0 = 9) _) rfl rfl rfl hl.1 rfl (Nat.le_of_ble_eq_true rfl) dX11_skill_13 ⟨Nat.zero_le _, Nat.zero_le _⟩ (fun r11 G11 H locs hw11 hP hS => ?_)
    obtain ⟨rfl, rfl⟩ := hw11
    subst hQ_
    exact z_iret C0 hP hS (v := (-1 : Int32)) (by exact zUc_of (k := 1) (by simp [U_skill, hz_ia]) (zFA_47 hR hna) (fun k hk => g1_n (by omega)) (g1_s _ _ _) (z_plk (g1_n (by decide)) hp)) dX11_skill_16
set_option maxHeartbeats 4000000 in
set_option maxRecDepth 100000 in
theorem c_X11_tryHard (l : Launch) (E : zE) (G : zG) (r : Nat → Int32) (n na : Nat) (athlete sect v : Int32) (hR : zFA G 1 r n na) (hn10 : n ≤ 10) (hna : na ≤ 5) (hp : zPl G) : zMi l yX11_tryHard wsX11_tryHard ({ frames := 1, cells := 0, slots := 0, locals := 22 } : Room) E G [.ref (E.1 0), .int athlete, .int sect, .int v] (fun r1 G1 => zUc (U_tryHard r n na athlete sect v) n na G r1 G1) := by
  refine zOf (cc := cX11_tryHard) (nL := 5) (ret := (some .int)) RX11 (by decide) rfl rfl (Nat.le_of_ble_eq_true rfl) ?_
  intro p_ e_ s_ m_ a_ b_ me_ c_ ls C0 hP hS hl
  have hx := C0.1
  have hb := C0.2.1
  have hts := C0.2.2.2.2.1
  have hD : zD E (zA E s_.heap.size) := C0.2.2.2.2.2.2.2.2
  have hA : ∀ q : Nat, s_.heap.size ≤ q → zA E s_.heap.size q := fun q h => Or.inr h
  refine z_gen (fun Q_ hQ_ => ?_)
  have hl : lv_has ls 5 [(0, .ref (E.1 0)), (1, .int athlete), (2, .int sect), (3, .int v)] := hl
  refine lv_aload_n hx hb dX11_tryHard_0 rfl (lv_at hl 0 rfl) ?_
  refine z_get C0 hP (C := RX11) (T := TX11) (N := 11) (ci := 9) (index := 10) (k := 0) (ref := "WetSuitPedalsShoes") (zk_lt (rfl : zk 0 = 9) (by decide)) (zd_9 E (rfl : zk 0 = 9) _) rfl (zmi inU_11) 0 (by decide) (zm flRX11_10) rfl (v := .ref (E.1 1)) (rfl) dX11_tryHard_1 ?_
  refine lv_iload_n hx hb dX11_tryHard_4 rfl (lv_at hl 1 rfl) ?_
  refine z_Vi C0 hP hD hA hS (As := [.int athlete]) (rest := []) (k := 1) (c_X3_has l E _ 1 na athlete z_lit_Fie_1 (hR.2.1) (by omega)) (cwV 1 hts (zgV zbw mlRX11_117 imX3_has seX3_has iniRX3 coX3_has) rfl rfl rfl (by decide +kernel) ⟨Nat.le_of_ble_eq_true rfl, Nat.le_of_ble_eq_true rfl⟩) (zk_lt (rfl : zk 1 = 3) (by decide)) (zd_3 E (rfl : zk 1 = 3) _) rfl rfl rfl hl.1 rfl (Nat.le_of_ble_eq_true rfl) dX11_tryHard_5 ⟨Nat.zero_le _, Nat.zero_le _⟩ (fun r1 G1 H locs hw1 hP hS => ?_)
  rcases hw1 with ⟨rfl, rfl, ia, hia, rfl⟩ | ⟨rfl, rfl, hno1⟩
  · skip
    have hz_ia := zin_t hia (by omega)
    have hy_ia : zix (nI ia) = ia := zix_n (by omega)
    refine lv_if_eq (tgt := 25) hx hb dX11_tryHard_8 (by decide) (fun h_ => absurd h_ (by decide)) (fun _ => ?_)
    refine lv_aload_n hx hb dX11_tryHard_11 rfl (lv_at hl 0 rfl) ?_
    refine z_get C0 hP (C := RX11) (T := TX11) (N := 11) (ci := 9) (index := 10) (k := 0) (ref := "WetSuitPedalsShoes") (zk_lt (rfl : zk 0 = 9) (by decide)) (zd_9 E (rfl : zk 0 = 9) _) rfl (zmi inU_11) 0 (by decide) (zm flRX11_10) rfl (v := .ref (E.1 1)) (rfl) dX11_tryHard_12 ?_
    refine z_get C0 hP (C := RX3) (T := TX3) (N := 3) (ci := 3) (index := 93) (k := 1) (ref := "WetSuitPedalsShoes$Field") (zk_lt (rfl : zk 1 = 3) (by decide)) (zd_3 E (rfl : zk 1 = 3) _) rfl (zmi inU_3) 0 (by decide) (zm flRX11_93) rfl (v := .ref (E.1 2)) (rfl) dX11_tryHard_15 ?_
    refine lv_iload_n hx hb dX11_tryHard_18 rfl (lv_at hl 2 rfl) ?_
    refine z_Vi C0 hP hD hA hS (As := [.int sect]) (rest := []) (k := 2) (c_X1_has l E _ 2 n sect z_lit_Cou_2 (hR.1) (by omega)) (cwV 1 hts (zgV zbw mlRX11_97 imX1_has seX1_has iniRX1 coX1_has) rfl rfl rfl (by decide +kernel) ⟨Nat.le_of_ble_eq_true rfl, Nat.le_of_ble_eq_true rfl⟩) (zk_lt (rfl : zk 2 = 1) (by decide)) (zd_1 E (rfl : zk 2 = 1) _) rfl rfl rfl hl.1 rfl (Nat.le_of_ble_eq_true rfl) dX11_tryHard_19 ⟨Nat.zero_le _, Nat.zero_le _⟩ (fun r2 G2 H locs hw2 hP hS => ?_)
    rcases hw2 with ⟨rfl, rfl, is, his, rfl⟩ | ⟨rfl, rfl, hno2⟩
    · skip
      have hz_is := zin_t his (by omega)
      have hy_is : zix (nI is) = is := zix_n (by omega)
      refine lv_if_ne (tgt := 31) hx hb dX11_tryHard_22 (by decide) (fun _ => ?_) (fun h_ => absurd h_ (by decide))
      refine lv_iload_n hx hb dX11_tryHard_31 rfl (lv_at hl 3 rfl) ?_
      refine lv_if_ge (tgt := 42) hx hb dX11_tryHard_32 (by decide) (fun c_32 => ?_) (fun c_32 => ?_)
      · skip
        have d_32 := Int32.not_lt.mpr c_32
        refine lv_iload_n hx hb dX11_tryHard_42 rfl (lv_at hl 3 rfl) ?_
        refine lv_iconst (v := (3 : Int32)) hx hb dX11_tryHard_43 (by decide) ?_
        refine lv_icmp_le (tgt := 54) hx hb dX11_tryHard_44 (by decide) (fun c_44 => ?_) (fun c_44 => ?_)
        · skip
          have d_44 := Int32.not_lt.mpr c_44
          refine lv_aload_n hx hb dX11_tryHard_54 rfl (lv_at hl 0 rfl) ?_
          refine z_get C0 hP (C := RX11) (T := TX11) (N := 11) (ci := 9) (index := 10) (k := 0) (ref := "WetSuitPedalsShoes") (zk_lt (rfl : zk 0 = 9) (by decide)) (zd_9 E (rfl : zk 0 = 9) _) rfl (zmi inU_11) 0 (by decide) (zm flRX11_10) rfl (v := .ref (E.1 1)) (rfl) dX11_tryHard_55 ?_
          refine z_get C0 hP (C := RX3) (T := TX3) (N := 3) (ci := 3) (index := 118) (k := 1) (ref := "WetSuitPedalsShoes$Field") (zk_lt (rfl : zk 1 = 3) (by decide)) (zd_3 E (rfl : zk 1 = 3) _) rfl (zmi inU_3) 1 (by decide) (zm flRX11_118) rfl (v := .ref (E.1 6)) (rfl) dX11_tryHard_58 ?_
          refine lv_iload_n hx hb dX11_tryHard_61 rfl (lv_at hl 1 rfl) ?_
          refine z_aald C0 hP (k := 6) (i := ia) (rfl : zk 6 = 12) (by omega) rfl dX11_tryHard_62 (fun at_3 hat_3 => ?_)
          have kat_3 : zIs at_3 tAth := hat_3 ▸ zIs_ath z_lit_Fie_1 (by omega)
          refine z_get C0 hP (C := RX0) (T := TX0) (N := 2) (ci := 0) (index := 127) (k := at_3) (ref := "WetSuitPedalsShoes$Athlete") (zk_lt (kat_3 (0, 0, 2) (by decide)).1 (by decide)) (zd_0 E (kat_3 (0, 0, 2) (by decide)).1 _) rfl (zmi inU_0) 1 (by decide) (zm flRX11_127) rfl (v := .ref (E.1 (at_3 + 2))) (rfl) dX11_tryHard_63 ?_
          refine lv_iload_n hx hb dX11_tryHard_66 rfl (lv_at hl 2 rfl) ?_
          refine z_iald C0 hP (k := (at_3 + 2)) (i := is) (v := (r (52 + 10 * ia + is))) (kat_3 (2, 11, 10) (by decide)).1 (Nat.lt_of_lt_of_eq (show is < 10 by omega) (kat_3 (2, 11, 10) (by decide)).2.symm) rfl dX11_tryHard_67 (z_tr hR hat_3 (by omega) (by omega)) ?_
          refine lv_istore (lv' := [(4, .int (r (52 + 10 * ia + is))), (0, .ref (E.1 0)), (1, .int (nI ia)), (2, .int (nI is)), (3, .int v)]) hx hb dX11_tryHard_68 hl (by decide) rfl (fun ls hl => ?_)
          refine lv_aload_n hx hb dX11_tryHard_70 rfl (lv_at hl 1 rfl) ?_
          refine z_get C0 hP (C := RX11) (T := TX11) (N := 11) (ci := 9) (index := 10) (k := 0) (ref := "WetSuitPedalsShoes") (zk_lt (rfl : zk 0 = 9) (by decide)) (zd_9 E (rfl : zk 0 = 9) _) rfl (zmi inU_11) 0 (by decide) (zm flRX11_10) rfl (v := .ref (E.1 1)) (rfl) dX11_tryHard_71 ?_
          refine z_get C0 hP (C := RX3) (T := TX3) (N := 3) (ci := 3) (index := 118) (k := 1) (ref := "WetSuitPedalsShoes$Field") (zk_lt (rfl : zk 1 = 3) (by decide)) (zd_3 E (rfl : zk 1 = 3) _) rfl (zmi inU_3) 1 (by decide) (zm flRX11_118) rfl (v := .ref (E.1 6)) (rfl) dX11_tryHard_74 ?_
          refine lv_iload_n hx hb dX11_tryHard_77 rfl (lv_at hl 2 rfl) ?_
          refine z_aald C0 hP (k := 6) (i := ia) (rfl : zk 6 = 12) (by omega) rfl dX11_tryHard_78 (fun at_4 hat_4 => ?_)
          have kat_4 : zIs at_4 tAth := hat_4 ▸ zIs_ath z_lit_Fie_1 (by omega)
          refine z_get C0 hP (C := RX0) (T := TX0) (N := 2) (ci := 0) (index := 127) (k := at_4) (ref := "WetSuitPedalsShoes$Athlete") (zk_lt (kat_4 (0, 0, 2) (by decide)).1 (by decide)) (zd_0 E (kat_4 (0, 0, 2) (by decide)).1 _) rfl (zmi inU_0) 1 (by decide) (zm flRX11_127) rfl (v := .ref (E.1 (at_4 + 2))) (rfl) dX11_tryHard_79 ?_
          refine lv_iload_n hx hb dX11_tryHard_82 rfl (lv_at hl 3 rfl) ?_
          refine lv_iload_n hx hb dX11_tryHard_83 rfl (lv_at hl 4 rfl) ?_
          refine z_iast C0 hP hD hS (k := (at_4 + 2)) (i := is) (v := v) (F := G (at_4 + 2)) (rfl) (kat_4 (2, 11, 10) (by decide)).1 (Nat.lt_of_lt_of_eq (show is < 10 by omega) (kat_4 (2, 11, 10) (by decide)).2.symm) rfl dX11_tryHard_84 (fun H locs hP hS => ?_)
          refine lv_iload hx hb dX11_tryHard_85 (lv_at hl 0 rfl) ?_
          subst hQ_
          exact z_iret C0 hP hS (v := (r (52 + 10 * ia + is))) (by exact zUc_of (k := 0) (by simp [U_tryHard, hz_ia, hy_ia, hz_is, hy_is, d_32, d_44]) (zFA_tries hR hat_4 hna (by omega) (by omega)) (fun k hk => g1_n (by omega)) (g1_n (by omega)) (z_plk (g1_n (by omega)) hp)) dX11_tryHard_87
        · skip
          have d_44 := Int32.not_le.mp c_44
          refine lv_aload_n hx hb dX11_tryHard_47 rfl (lv_at hl 0 rfl) ?_
          refine lv_bipush (v := (-6 : Int32)) hx hb dX11_tryHard_48 (by decide) ?_
          refine z_Vi C0 hP hD hA hS (As := [.int (-6 : Int32)]) (rest := []) (k := 0) (c_X11_refuse l E _ (-6 : Int32) 6 (by decide) (by decide) (by decide)) (cwV 1 hts (zgV zbw mlRX11_72 imX11_refuse seX11_refuse iniRX11 coX11_refuse) rfl rfl rfl (by decide +kernel) ⟨Nat.le_of_ble_eq_true rfl, Nat.le_of_ble_eq_true rfl⟩) (zk_lt (rfl : zk 0 = 9) (by decide)) (zd_9 E (rfl : zk 0 = 9) _) rfl rfl rfl hl.1 rfl (Nat.le_of_ble_eq_true rfl) dX11_tryHard_50 ⟨Nat.zero_le _, Nat.zero_le _⟩ (fun r5 G5 H locs hw5 hP hS => ?_)
          obtain ⟨rfl, rfl⟩ := hw5
          subst hQ_
          exact z_iret C0 hP hS (v := (-6 : Int32)) (by exact zUc_of (k := 6) (by simp [U_tryHard, hz_ia, hy_ia, hz_is, hy_is, d_32, d_44]) (zFA_47 hR hna) (fun k hk => g1_n (by omega)) (g1_s _ _ _) (z_plk (g1_n (by decide)) hp)) dX11_tryHard_53
      · skip
        have d_32 := Int32.not_le.mp c_32
        refine lv_aload_n hx hb dX11_tryHard_35 rfl (lv_at hl 0 rfl) ?_
        refine lv_bipush (v := (-4 : Int32)) hx hb dX11_tryHard_36 (by decide) ?_
        refine z_Vi C0 hP hD hA hS (As := [.int (-4 : Int32)]) (rest := []) (k := 0) (c_X11_refuse l E _ (-4 : Int32) 4 (by decide) (by decide) (by decide)) (cwV 1 hts (zgV zbw mlRX11_72 imX11_refuse seX11_refuse iniRX11 coX11_refuse) rfl rfl rfl (by decide +kernel) ⟨Nat.le_of_ble_eq_true rfl, Nat.le_of_ble_eq_true rfl⟩) (zk_lt (rfl : zk 0 = 9) (by decide)) (zd_9 E (rfl : zk 0 = 9) _) rfl rfl rfl hl.1 rfl (Nat.le_of_ble_eq_true rfl) dX11_tryHard_38 ⟨Nat.zero_le _, Nat.zero_le _⟩ (fun r6 G6 H locs hw6 hP hS => ?_)
        obtain ⟨rfl, rfl⟩ := hw6
        subst hQ_
        exact z_iret C0 hP hS (v := (-4 : Int32)) (by exact zUc_of (k := 4) (by simp [U_tryHard, hz_ia, hy_ia, hz_is, hy_is, d_32]) (zFA_47 hR hna) (fun k hk => g1_n (by omega)) (g1_s _ _ _) (z_plk (g1_n (by decide)) hp)) dX11_tryHard_41
    · skip
      have hz_is := zin_f (by omega) hno2
      refine lv_if_ne (tgt := 31) hx hb dX11_tryHard_22 (by decide) (fun h_ => absurd (by decide) h_) (fun _ => ?_)
      refine lv_aload_n hx hb dX11_tryHard_25 rfl (lv_at hl 0 rfl) ?_
      refine lv_iconst (v := (-1 : Int32)) hx hb dX11_tryHard_26 (by decide) ?_
      refine z_Vi C0 hP hD hA hS (As := [.int (-1 : Int32)]) (rest := []) (k := 0) (c_X11_refuse l E _ (-1 : Int32) 1 (by decide) (by decide) (by decide)) (cwV 1 hts (zgV zbw mlRX11_72 imX11_refuse seX11_refuse iniRX11 coX11_refuse) rfl rfl rfl (by decide +kernel) ⟨Nat.le_of_ble_eq_true rfl, Nat.le_of_ble_eq_true rfl⟩) (zk_lt (rfl : zk 0 = 9) (by decide)) (zd_9 E (rfl : zk 0 = 9) _) rfl rfl rfl hl.1 rfl (Nat.le_of_ble_eq_true rfl) dX11_tryHard_27 ⟨Nat.zero_le _, Nat.zero_le _⟩ (fun r7 G7 H locs hw7 hP hS => ?_)
      obtain ⟨rfl, rfl⟩ := hw7
      subst hQ_
      exact z_iret C0 hP hS (v := (-1 : Int32)) (by exact zUc_of (k := 1) (by simp [U_tryHard, hz_ia, hy_ia, hz_is]) (zFA_47 hR hna) (fun k hk => g1_n (by omega)) (g1_s _ _ _) (z_plk (g1_n (by decide)) hp)) dX11_tryHard_30
  · skip
    have hz_ia := zin_f (by omega) hno1
    refine lv_if_eq (tgt := 25) hx hb dX11_tryHard_8 (by decide) (fun _ => ?_) (fun h_ => absurd (by decide) h_)
    refine lv_aload_n hx hb dX11_tryHard_25 rfl (lv_at hl 0 rfl) ?_
    refine lv_iconst (v := (-1 : Int32)) hx hb dX11_tryHard_26 (by decide) ?_
    refine z_Vi C0 hP hD hA hS (As := [.int (-1 : Int32)]) (rest := []) (k := 0) (c_X11_refuse l E _ (-1 : Int32) 1 (by decide) (by decide) (by decide)) (cwV 1 hts (zgV zbw mlRX11_72 imX11_refuse seX11_refuse iniRX11 coX11_refuse) rfl rfl rfl (by decide +kernel) ⟨Nat.le_of_ble_eq_true rfl, Nat.le_of_ble_eq_true rfl⟩) (zk_lt (rfl : zk 0 = 9) (by decide)) (zd_9 E (rfl : zk 0 = 9) _) rfl rfl rfl hl.1 rfl (Nat.le_of_ble_eq_true rfl) dX11_tryHard_27 ⟨Nat.zero_le _, Nat.zero_le _⟩ (fun r8 G8 H locs hw8 hP hS => ?_)
    obtain ⟨rfl, rfl⟩ := hw8
    subst hQ_
    exact z_iret C0 hP hS (v := (-1 : Int32)) (by exact zUc_of (k := 1) (by simp [U_tryHard, hz_ia]) (zFA_47 hR hna) (fun k hk => g1_n (by omega)) (g1_s _ _ _) (z_plk (g1_n (by decide)) hp)) dX11_tryHard_30
