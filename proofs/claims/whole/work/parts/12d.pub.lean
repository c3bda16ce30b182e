/-! laid by wip/whole/vcg.py -/
theorem mlRX11_187 : Cond.methodLink RX11 187 yX10_rideAt ∈ zU := zU_m 572 (by decide +kernel) rfl
theorem coX10_rideAt : Cond.code yX10_rideAt cX10_rideAt 3 none ∈ zU := zU_m 575 (by decide +kernel) rfl
theorem imX10_rideAt : Cond.instanceMethod yX10_rideAt ∈ zU := zU_m 573 (by decide +kernel) rfl
theorem seX10_rideAt : Cond.selects RX10 yX10_rideAt yX10_rideAt ∈ zU := zU_m 574 (by decide +kernel) rfl
theorem mlRX11_191 : Cond.methodLink RX11 191 yX10_legsAtFinish ∈ zU := zU_m 577 (by decide +kernel) rfl
theorem coX10_legsAtFinish : Cond.code yX10_legsAtFinish cX10_legsAtFinish 1 (some .int) ∈ zU := zU_m 580 (by decide +kernel) rfl
theorem imX10_legsAtFinish : Cond.instanceMethod yX10_legsAtFinish ∈ zU := zU_m 578 (by decide +kernel) rfl
theorem seX10_legsAtFinish : Cond.selects RX10 yX10_legsAtFinish yX10_legsAtFinish ∈ zU := zU_m 579 (by decide +kernel) rfl
set_option maxHeartbeats 4000000 in
set_option maxRecDepth 100000 in
theorem c_X11_hardest (l : Launch) (E : zE) (G : zG) (r : Nat → Int32) (n na : Nat) (athlete : Int32) (hR : zFA G 1 r n na) (hn10 : n ≤ 10) (hna : na ≤ 5) (hp : zPl G) (hkd : zKd r n) : zMi l yX11_hardest wsX11_hardest ({ frames := 4, cells := 0, slots := 0, locals := 90 } : Room) E G [.ref (E.1 0), .int athlete] (fun r1 G1 => zQc (A_hardest r n na athlete) G r1 G1) := by
  refine zOf (cc := cX11_hardest) (nL := 3) (ret := (some .int)) RX11 (by decide) rfl rfl (Nat.le_of_ble_eq_true rfl) ?_
  intro p_ e_ s_ m_ a_ b_ me_ c_ ls C0 hP hS hl
  have hx := C0.1
  have hb := C0.2.1
  have hts := C0.2.2.2.2.1
  have hD : zD E (zA E s_.heap.size) := C0.2.2.2.2.2.2.2.2
  have hA : ∀ q : Nat, s_.heap.size ≤ q → zA E s_.heap.size q := fun q h => Or.inr h
  refine z_gen (fun Q_ hQ_ => ?_)
  have hl : lv_has ls 3 [(0, .ref (E.1 0)), (1, .int athlete)] := hl
  refine lv_aload_n hx hb dX11_hardest_0 rfl (lv_at hl 0 rfl) ?_
  refine z_get C0 hP (C := RX11) (T := TX11) (N := 11) (ci := 9) (index := 10) (k := 0) (ref := "WetSuitPedalsShoes") (zk_lt (rfl : zk 0 = 9) (by decide)) (zd_9 E (rfl : zk 0 = 9) _) rfl (zmi inU_11) 0 (by decide) (zm flRX11_10) rfl (v := .ref (E.1 1)) (rfl) dX11_hardest_1 ?_
  refine lv_iload_n hx hb dX11_hardest_4 rfl (lv_at hl 1 rfl) ?_
  refine z_Vi C0 hP hD hA hS (As := [.int athlete]) (rest := []) (k := 1) (c_X3_has l E _ 1 na athlete z_lit_Fie_1 (hR.2.1) (by omega)) (cwV 1 hts (zgV zbw mlRX11_117 imX3_has seX3_has iniRX3 coX3_has) rfl rfl rfl (by decide +kernel) ⟨Nat.le_of_ble_eq_true rfl, Nat.le_of_ble_eq_true rfl⟩) (zk_lt (rfl : zk 1 = 3) (by decide)) (zd_3 E (rfl : zk 1 = 3) _) rfl rfl rfl hl.1 rfl (Nat.le_of_ble_eq_true rfl) dX11_hardest_5 ⟨Nat.zero_le _, Nat.zero_le _⟩ (fun r1 G1 H locs hw1 hP hS => ?_)
  rcases hw1 with ⟨rfl, rfl, ia, hia, rfl⟩ | ⟨rfl, rfl, hno1⟩
  · skip
    have hz_ia := zin_t hia (by omega)
    have hy_ia : zix (nI ia) = ia := zix_n (by omega)
    refine lv_if_ne (tgt := 17) hx hb dX11_hardest_8 (by decide) (fun _ => ?_) (fun h_ => absurd h_ (by decide))
    refine lv_aload_n hx hb dX11_hardest_17 rfl (lv_at hl 0 rfl) ?_
    refine z_get C0 hP (C := RX11) (T := TX11) (N := 11) (ci := 9) (index := 44) (k := 0) (ref := "WetSuitPedalsShoes") (zk_lt (rfl : zk 0 = 9) (by decide)) (zd_9 E (rfl : zk 0 = 9) _) rfl (zmi inU_11) 6 (by decide) (zm flRX11_44) rfl (v := .ref (E.1 48)) (rfl) dX11_hardest_18 ?_
    refine lv_aload_n hx hb dX11_hardest_21 rfl (lv_at hl 0 rfl) ?_
    refine z_get C0 hP (C := RX11) (T := TX11) (N := 11) (ci := 9) (index := 10) (k := 0) (ref := "WetSuitPedalsShoes") (zk_lt (rfl : zk 0 = 9) (by decide)) (zd_9 E (rfl : zk 0 = 9) _) rfl (zmi inU_11) 0 (by decide) (zm flRX11_10) rfl (v := .ref (E.1 1)) (rfl) dX11_hardest_22 ?_
    refine z_get C0 hP (C := RX3) (T := TX3) (N := 3) (ci := 3) (index := 93) (k := 1) (ref := "WetSuitPedalsShoes$Field") (zk_lt (rfl : zk 1 = 3) (by decide)) (zd_3 E (rfl : zk 1 = 3) _) rfl (zmi inU_3) 0 (by decide) (zm flRX11_93) rfl (v := .ref (E.1 2)) (rfl) dX11_hardest_25 ?_
    refine lv_aload_n hx hb dX11_hardest_28 rfl (lv_at hl 0 rfl) ?_
    refine z_get C0 hP (C := RX11) (T := TX11) (N := 11) (ci := 9) (index := 10) (k := 0) (ref := "WetSuitPedalsShoes") (zk_lt (rfl : zk 0 = 9) (by decide)) (zd_9 E (rfl : zk 0 = 9) _) rfl (zmi inU_11) 0 (by decide) (zm flRX11_10) rfl (v := .ref (E.1 1)) (rfl) dX11_hardest_29 ?_
    refine z_get C0 hP (C := RX3) (T := TX3) (N := 3) (ci := 3) (index := 118) (k := 1) (ref := "WetSuitPedalsShoes$Field") (zk_lt (rfl : zk 1 = 3) (by decide)) (zd_3 E (rfl : zk 1 = 3) _) rfl (zmi inU_3) 1 (by decide) (zm flRX11_118) rfl (v := .ref (E.1 6)) (rfl) dX11_hardest_32 ?_
    refine lv_iload_n hx hb dX11_hardest_35 rfl (lv_at hl 1 rfl) ?_
    refine z_aald C0 hP (k := 6) (i := ia) (rfl : zk 6 = 12) (by omega) rfl dX11_hardest_36 (fun at_2 hat_2 => ?_)
    have kat_2 : zIs at_2 tAth := hat_2 ▸ zIs_ath z_lit_Fie_1 (by omega)
    refine z_Vv C0 hP hD hA hS (As := [.ref (E.1 2), .ref (E.1 at_2)]) (rest := []) (k := 48) (c_X10_load l E _ 48 2 at_2 z_lit_Tri_48 z_lit_Cou_2 kat_2 (by omega) (by omega)) (cwV 2 hts (zgV zbw mlRX11_164 imX10_load seX10_load iniRX10 coX10_load) rfl rfl rfl (by decide +kernel) ⟨Nat.le_of_ble_eq_true rfl, Nat.le_of_ble_eq_true rfl⟩) (zk_lt (rfl : zk 48 = 8) (by decide)) (zd_8 E (rfl : zk 48 = 8) _) rfl rfl rfl hl.1 rfl (Nat.le_of_ble_eq_true rfl) dX11_hardest_37 ⟨Nat.zero_le _, Nat.zero_le _⟩ (fun G3 H locs hw3 hP hS => ?_)
    obtain ⟨hF3, hmn3, hkf3, hab3, htr3, hdr3⟩ := hw3
    have hTA3 := zTA_load (t := 48) hR hat_2 hia hmn3 hkf3 hab3 htr3
    have hTR3 := zTR_of hTA3 hdr3
    refine lv_iconst (v := (3 : Int32)) hx hb dX11_hardest_40 (by decide) ?_
    refine lv_istore_n (lv' := [(2, .int (3 : Int32)), (0, .ref (E.1 0)), (1, .int (nI ia))]) hx hb dX11_hardest_41 rfl hl (by decide) rfl (fun ls hl => ?_)
    refine lv_iload_n hx hb dX11_hardest_42 rfl (lv_at hl 0 rfl) ?_
    refine lv_if_lt (tgt := 80) hx hb dX11_hardest_43 (by decide) (fun h_ => absurd h_ (by decide)) (fun _ => ?_)
    refine lv_aload_n hx hb dX11_hardest_46 rfl (lv_at hl 1 rfl) ?_
    refine z_get C0 hP (C := RX11) (T := TX11) (N := 11) (ci := 9) (index := 44) (k := 0) (ref := "WetSuitPedalsShoes") (zk_lt (rfl : zk 0 = 9) (by decide)) (zd_9 E (rfl : zk 0 = 9) _) rfl (zmi inU_11) 6 (by decide) (zm flRX11_44) rfl (v := .ref (E.1 48)) (rfl) dX11_hardest_47 ?_
    refine lv_iload_n hx hb dX11_hardest_50 rfl (lv_at hl 0 rfl) ?_
    refine z_Vv C0 hP hD hA hS (As := [.int (3 : Int32)]) (rest := []) (k := 48) (c_X10_rideAt l E _ 48 n (3 : Int32) z_lit_Tri_48 (hTA3.1) (by omega) ) (cwV 1 hts (zgV zbw mlRX11_187 imX10_rideAt seX10_rideAt iniRX10 coX10_rideAt) rfl rfl rfl (by decide +kernel) ⟨Nat.le_of_ble_eq_true rfl, Nat.le_of_ble_eq_true rfl⟩) (zk_lt (rfl : zk 48 = 8) (by decide)) (zd_8 E (rfl : zk 48 = 8) _) rfl rfl rfl hl.1 rfl (Nat.le_of_ble_eq_true rfl) dX11_hardest_51 ⟨Nat.zero_le _, Nat.zero_le _⟩ (fun G4 H locs hw4 hP hS => ?_)
    obtain rfl := hw4
    have hR4 := zTR_ride (v := (3 : Int32)) hTR3 hn10 (by omega)
    obtain ⟨Gn_5, hGn_5⟩ : ∃ z : zG, z = (g1 G3 55 (s_rides (G3 50) (G3 55) (3 : Int32) n)) := ⟨_, rfl⟩
    rw [← hGn_5] at hP
    have hFGn_5 : ∀ k, (k < 55 ∨ 55 < k) → Gn_5 k = G3 k := fun k hk => by rw [hGn_5]; exact g1_n (by omega)
    rw [show g1 _ (48 + 7) _ = Gn_5 from hGn_5.symm] at hR4
    refine lv_aload_n hx hb dX11_hardest_54 rfl (lv_at hl 1 rfl) ?_
    refine z_get C0 hP (C := RX11) (T := TX11) (N := 11) (ci := 9) (index := 44) (k := 0) (ref := "WetSuitPedalsShoes") (zk_lt (rfl : zk 0 = 9) (by decide)) (zd_9 E (rfl : zk 0 = 9) _) rfl (zmi inU_11) 6 (by decide) (zm flRX11_44) rfl (v := .ref (E.1 48)) (rfl) dX11_hardest_55 ?_
    refine z_Vi C0 hP hD hA hS (As := []) (rest := []) (k := 48) (c_X10_run l E _ 48 n z_lit_Tri_48 ((congrFun (hFGn_5 _ (by decide)) _).trans (hTA3.1)) (by omega)) (cwV 0 hts (zgV zbw mlRX11_168 imX10_run seX10_run iniRX10 coX10_run) rfl rfl rfl (by decide +kernel) ⟨Nat.le_of_ble_eq_true rfl, Nat.le_of_ble_eq_true rfl⟩) (zk_lt (rfl : zk 48 = 8) (by decide)) (zd_8 E (rfl : zk 48 = 8) _) rfl rfl rfl hl.1 rfl (Nat.le_of_ble_eq_true rfl) dX11_hardest_58 ⟨Nat.zero_le _, Nat.zero_le _⟩ (fun r6 G6 H locs hw6 hP hS => ?_)
    obtain ⟨hr6, hF6, hrow6⟩ := hw6
    have hTR6 := zTR_fr hR4.2 hF6
    have hq6 := q_hd_c hR4.1 hkd hn10 (by omega) hR4.2.2.2.2.2 (hF6 54 (by omega)) hrow6
    refine lv_pop hx hb dX11_hardest_61 rfl ?_
    refine lv_aload_n hx hb dX11_hardest_62 rfl (lv_at hl 1 rfl) ?_
    refine z_get C0 hP (C := RX11) (T := TX11) (N := 11) (ci := 9) (index := 44) (k := 0) (ref := "WetSuitPedalsShoes") (zk_lt (rfl : zk 0 = 9) (by decide)) (zd_9 E (rfl : zk 0 = 9) _) rfl (zmi inU_11) 6 (by decide) (zm flRX11_44) rfl (v := .ref (E.1 48)) (rfl) dX11_hardest_63 ?_
    refine z_Vi C0 hP hD hA hS (As := []) (rest := []) (k := 48) (c_X10_legsAtFinish l E _ 48 n  z_lit_Tri_48 ((congrFun ((hF6 _ (by decide)).trans (hFGn_5 _ (by decide))) _).trans (hTA3.1)) (by omega) ) (cwV 0 hts (zgV zbw mlRX11_191 imX10_legsAtFinish seX10_legsAtFinish iniRX10 coX10_legsAtFinish) rfl rfl rfl (by decide +kernel) ⟨Nat.le_of_ble_eq_true rfl, Nat.le_of_ble_eq_true rfl⟩) (zk_lt (rfl : zk 48 = 8) (by decide)) (zd_8 E (rfl : zk 48 = 8) _) rfl rfl rfl hl.1 rfl (Nat.le_of_ble_eq_true rfl) dX11_hardest_66 ⟨Nat.zero_le _, Nat.zero_le _⟩ (fun r7 G7 H locs hw7 hP hS => ?_)
    obtain ⟨hr7, rfl⟩ := hw7
    have hr7 : q_hd r n ia (3 : Int32) = _ := hq6.symm.trans hr7
    subst hr7
    refine lv_if_le (tgt := 74) hx hb dX11_hardest_69 (by decide) (fun c_69 => ?_) (fun c_69 => ?_)
    · skip
      have d_69 := Int32.not_lt.mpr c_69
      refine lv_iinc (v := (2 : Int32)) (lv' := [(2, .int (2 : Int32)), (0, .ref (E.1 0)), (1, .int (nI ia))]) hx hb dX11_hardest_74 hl (k := 0) rfl (by decide) (by decide) rfl (fun ls hl => ?_)
      refine lv_goto (tgt := 42) hx hb dX11_hardest_77 (by decide) ?_
      refine lv_iload_n hx hb dX11_hardest_42 rfl (lv_at hl 0 rfl) ?_
      refine lv_if_lt (tgt := 80) hx hb dX11_hardest_43 (by decide) (fun h_ => absurd h_ (by decide)) (fun _ => ?_)
      refine lv_aload_n hx hb dX11_hardest_46 rfl (lv_at hl 1 rfl) ?_
      refine z_get C0 hP (C := RX11) (T := TX11) (N := 11) (ci := 9) (index := 44) (k := 0) (ref := "WetSuitPedalsShoes") (zk_lt (rfl : zk 0 = 9) (by decide)) (zd_9 E (rfl : zk 0 = 9) _) rfl (zmi inU_11) 6 (by decide) (zm flRX11_44) rfl (v := .ref (E.1 48)) (rfl) dX11_hardest_47 ?_
      refine lv_iload_n hx hb dX11_hardest_50 rfl (lv_at hl 0 rfl) ?_
      refine z_Vv C0 hP hD hA hS (As := [.int (2 : Int32)]) (rest := []) (k := 48) (c_X10_rideAt l E _ 48 n (2 : Int32) z_lit_Tri_48 ((congrFun ((hF6 _ (by decide)).trans (hFGn_5 _ (by decide))) _).trans (hTA3.1)) (by omega) ) (cwV 1 hts (zgV zbw mlRX11_187 imX10_rideAt seX10_rideAt iniRX10 coX10_rideAt) rfl rfl rfl (by decide +kernel) ⟨Nat.le_of_ble_eq_true rfl, Nat.le_of_ble_eq_true rfl⟩) (zk_lt (rfl : zk 48 = 8) (by decide)) (zd_8 E (rfl : zk 48 = 8) _) rfl rfl rfl hl.1 rfl (Nat.le_of_ble_eq_true rfl) dX11_hardest_51 ⟨Nat.zero_le _, Nat.zero_le _⟩ (fun G8 H locs hw8 hP hS => ?_)
      obtain rfl := hw8
      have hR8 := zTR_ride (v := (2 : Int32)) hTR6 hn10 (by omega)
      obtain ⟨Gn_9, hGn_9⟩ : ∃ z : zG, z = (g1 G6 55 (s_rides (G6 50) (G6 55) (2 : Int32) n)) := ⟨_, rfl⟩
      rw [← hGn_9] at hP
      have hFGn_9 : ∀ k, (k < 55 ∨ 55 < k) → Gn_9 k = G6 k := fun k hk => by rw [hGn_9]; exact g1_n (by omega)
      rw [show g1 _ (48 + 7) _ = Gn_9 from hGn_9.symm] at hR8
      refine lv_aload_n hx hb dX11_hardest_54 rfl (lv_at hl 1 rfl) ?_
      refine z_get C0 hP (C := RX11) (T := TX11) (N := 11) (ci := 9) (index := 44) (k := 0) (ref := "WetSuitPedalsShoes") (zk_lt (rfl : zk 0 = 9) (by decide)) (zd_9 E (rfl : zk 0 = 9) _) rfl (zmi inU_11) 6 (by decide) (zm flRX11_44) rfl (v := .ref (E.1 48)) (rfl) dX11_hardest_55 ?_
      refine z_Vi C0 hP hD hA hS (As := []) (rest := []) (k := 48) (c_X10_run l E _ 48 n z_lit_Tri_48 ((congrFun ((hFGn_9 _ (by decide)).trans ((hF6 _ (by decide)).trans (hFGn_5 _ (by decide)))) _).trans (hTA3.1)) (by omega)) (cwV 0 hts (zgV zbw mlRX11_168 imX10_run seX10_run iniRX10 coX10_run) rfl rfl rfl (by decide +kernel) ⟨Nat.le_of_ble_eq_true rfl, Nat.le_of_ble_eq_true rfl⟩) (zk_lt (rfl : zk 48 = 8) (by decide)) (zd_8 E (rfl : zk 48 = 8) _) rfl rfl rfl hl.1 rfl (Nat.le_of_ble_eq_true rfl) dX11_hardest_58 ⟨Nat.zero_le _, Nat.zero_le _⟩ (fun r10 G10 H locs hw10 hP hS => ?_)
      obtain ⟨hr10, hF10, hrow10⟩ := hw10
      have hTR10 := zTR_fr hR8.2 hF10
      have hq10 := q_hd_c hR8.1 hkd hn10 (by omega) hR8.2.2.2.2.2 (hF10 54 (by omega)) hrow10
      refine lv_pop hx hb dX11_hardest_61 rfl ?_
      refine lv_aload_n hx hb dX11_hardest_62 rfl (lv_at hl 1 rfl) ?_
      refine z_get C0 hP (C := RX11) (T := TX11) (N := 11) (ci := 9) (index := 44) (k := 0) (ref := "WetSuitPedalsShoes") (zk_lt (rfl : zk 0 = 9) (by decide)) (zd_9 E (rfl : zk 0 = 9) _) rfl (zmi inU_11) 6 (by decide) (zm flRX11_44) rfl (v := .ref (E.1 48)) (rfl) dX11_hardest_63 ?_
      refine z_Vi C0 hP hD hA hS (As := []) (rest := []) (k := 48) (c_X10_legsAtFinish l E _ 48 n  z_lit_Tri_48 ((congrFun ((hF10 _ (by decide)).trans ((hFGn_9 _ (by decide)).trans ((hF6 _ (by decide)).trans (hFGn_5 _ (by decide))))) _).trans (hTA3.1)) (by omega) ) (cwV 0 hts (zgV zbw mlRX11_191 imX10_legsAtFinish seX10_legsAtFinish iniRX10 coX10_legsAtFinish) rfl rfl rfl (by decide +kernel) ⟨Nat.le_of_ble_eq_true rfl, Nat.le_of_ble_eq_true rfl⟩) (zk_lt (rfl : zk 48 = 8) (by decide)) (zd_8 E (rfl : zk 48 = 8) _) rfl rfl rfl hl.1 rfl (Nat.le_of_ble_eq_true rfl) dX11_hardest_66 ⟨Nat.zero_le _, Nat.zero_le _⟩ (fun r11 G11 H locs hw11 hP hS => ?_)
      obtain ⟨hr11, rfl⟩ := hw11
      have hr11 : q_hd r n ia (2 : Int32) = _ := hq10.symm.trans hr11
      subst hr11
      refine lv_if_le (tgt := 74) hx hb dX11_hardest_69 (by decide) (fun c_69_1 => ?_) (fun c_69_1 => ?_)
      · skip
        have d_69_1 := Int32.not_lt.mpr c_69_1
        refine lv_iinc (v := (1 : Int32)) (lv' := [(2, .int (1 : Int32)), (0, .ref (E.1 0)), (1, .int (nI ia))]) hx hb dX11_hardest_74 hl (k := 0) rfl (by decide) (by decide) rfl (fun ls hl => ?_)
        refine lv_goto (tgt := 42) hx hb dX11_hardest_77 (by decide) ?_
        refine lv_iload_n hx hb dX11_hardest_42 rfl (lv_at hl 0 rfl) ?_
        refine lv_if_lt (tgt := 80) hx hb dX11_hardest_43 (by decide) (fun h_ => absurd h_ (by decide)) (fun _ => ?_)
        refine lv_aload_n hx hb dX11_hardest_46 rfl (lv_at hl 1 rfl) ?_
        refine z_get C0 hP (C := RX11) (T := TX11) (N := 11) (ci := 9) (index := 44) (k := 0) (ref := "WetSuitPedalsShoes") (zk_lt (rfl : zk 0 = 9) (by decide)) (zd_9 E (rfl : zk 0 = 9) _) rfl (zmi inU_11) 6 (by decide) (zm flRX11_44) rfl (v := .ref (E.1 48)) (rfl) dX11_hardest_47 ?_
        refine lv_iload_n hx hb dX11_hardest_50 rfl (lv_at hl 0 rfl) ?_
        refine z_Vv C0 hP hD hA hS (As := [.int (1 : Int32)]) (rest := []) (k := 48) (c_X10_rideAt l E _ 48 n (1 : Int32) z_lit_Tri_48 ((congrFun ((hF10 _ (by decide)).trans ((hFGn_9 _ (by decide)).trans ((hF6 _ (by decide)).trans (hFGn_5 _ (by decide))))) _).trans (hTA3.1)) (by omega) ) (cwV 1 hts (zgV zbw mlRX11_187 imX10_rideAt seX10_rideAt iniRX10 coX10_rideAt) rfl rfl rfl (by decide +kernel) ⟨Nat.le_of_ble_eq_true rfl, Nat.le_of_ble_eq_true rfl⟩) (zk_lt (rfl : zk 48 = 8) (by decide)) (zd_8 E (rfl : zk 48 = 8) _) rfl rfl rfl hl.1 rfl (Nat.le_of_ble_eq_true rfl) dX11_hardest_51 ⟨Nat.zero_le _, Nat.zero_le _⟩ (fun G12 H locs hw12 hP hS => ?_)
        obtain rfl := hw12
        have hR12 := zTR_ride (v := (1 : Int32)) hTR10 hn10 (by omega)
        obtain ⟨Gn_13, hGn_13⟩ : ∃ z : zG, z = (g1 G10 55 (s_rides (G10 50) (G10 55) (1 : Int32) n)) := ⟨_, rfl⟩
        rw [← hGn_13] at hP
        have hFGn_13 : ∀ k, (k < 55 ∨ 55 < k) → Gn_13 k = G10 k := fun k hk => by rw [hGn_13]; exact g1_n (by omega)
        rw [show g1 _ (48 + 7) _ = Gn_13 from hGn_13.symm] at hR12
        refine lv_aload_n hx hb dX11_hardest_54 rfl (lv_at hl 1 rfl) ?_
        refine z_get C0 hP (C := RX11) (T := TX11) (N := 11) (ci := 9) (index := 44) (k := 0) (ref := "WetSuitPedalsShoes") (zk_lt (rfl : zk 0 = 9) (by decide)) (zd_9 E (rfl : zk 0 = 9) _) rfl (zmi inU_11) 6 (by decide) (zm flRX11_44) rfl (v := .ref (E.1 48)) (rfl) dX11_hardest_55 ?_
        refine z_Vi C0 hP hD hA hS (As := []) (rest := []) (k := 48) (c_X10_run l E _ 48 n z_lit_Tri_48 ((congrFun ((hFGn_13 _ (by decide)).trans ((hF10 _ (by decide)).trans ((hFGn_9 _ (by decide)).trans ((hF6 _ (by decide)).trans (hFGn_5 _ (by decide)))))) _).trans (hTA3.1)) (by omega)) (cwV 0 hts (zgV zbw mlRX11_168 imX10_run seX10_run iniRX10 coX10_run) rfl rfl rfl (by decide +kernel) ⟨Nat.le_of_ble_eq_true rfl, Nat.le_of_ble_eq_true rfl⟩) (zk_lt (rfl : zk 48 = 8) (by decide)) (zd_8 E (rfl : zk 48 = 8) _) rfl rfl rfl hl.1 rfl (Nat.le_of_ble_eq_true rfl) dX11_hardest_58 ⟨Nat.zero_le _, Nat.zero_le _⟩ (fun r14 G14 H locs hw14 hP hS => ?_)
        obtain ⟨hr14, hF14, hrow14⟩ := hw14
        have hTR14 := zTR_fr hR12.2 hF14
        have hq14 := q_hd_c hR12.1 hkd hn10 (by omega) hR12.2.2.2.2.2 (hF14 54 (by omega)) hrow14
        refine lv_pop hx hb dX11_hardest_61 rfl ?_
        refine lv_aload_n hx hb dX11_hardest_62 rfl (lv_at hl 1 rfl) ?_
        refine z_get C0 hP (C := RX11) (T := TX11) (N := 11) (ci := 9) (index := 44) (k := 0) (ref := "WetSuitPedalsShoes") (zk_lt (rfl : zk 0 = 9) (by decide)) (zd_9 E (rfl : zk 0 = 9) _) rfl (zmi inU_11) 6 (by decide) (zm flRX11_44) rfl (v := .ref (E.1 48)) (rfl) dX11_hardest_63 ?_
        refine z_Vi C0 hP hD hA hS (As := []) (rest := []) (k := 48) (c_X10_legsAtFinish l E _ 48 n  z_lit_Tri_48 ((congrFun ((hF14 _ (by decide)).trans ((hFGn_13 _ (by decide)).trans ((hF10 _ (by decide)).trans ((hFGn_9 _ (by decide)).trans ((hF6 _ (by decide)).trans (hFGn_5 _ (by decide))))))) _).trans (hTA3.1)) (by omega) ) (cwV 0 hts (zgV zbw mlRX11_191 imX10_legsAtFinish seX10_legsAtFinish iniRX10 coX10_legsAtFinish) rfl rfl rfl (by decide +kernel) ⟨Nat.le_of_ble_eq_true rfl, Nat.le_of_ble_eq_true rfl⟩) (zk_lt (rfl : zk 48 = 8) (by decide)) (zd_8 E (rfl : zk 48 = 8) _) rfl rfl rfl hl.1 rfl (Nat.le_of_ble_eq_true rfl) dX11_hardest_66 ⟨Nat.zero_le _, Nat.zero_le _⟩ (fun r15 G15 H locs hw15 hP hS => ?_)
        obtain ⟨hr15, rfl⟩ := hw15
        have hr15 : q_hd r n ia (1 : Int32) = _ := hq14.symm.trans hr15
        subst hr15
        refine lv_if_le (tgt := 74) hx hb dX11_hardest_69 (by decide) (fun c_69_2 => ?_) (fun c_69_2 => ?_)
        · skip
          have d_69_2 := Int32.not_lt.mpr c_69_2
          refine lv_iinc (v := (0 : Int32)) (lv' := [(2, .int (0 : Int32)), (0, .ref (E.1 0)), (1, .int (nI ia))]) hx hb dX11_hardest_74 hl (k := 0) rfl (by decide) (by decide) rfl (fun ls hl => ?_)
          refine lv_goto (tgt := 42) hx hb dX11_hardest_77 (by decide) ?_
          refine lv_iload_n hx hb dX11_hardest_42 rfl (lv_at hl 0 rfl) ?_
          refine lv_if_lt (tgt := 80) hx hb dX11_hardest_43 (by decide) (fun h_ => absurd h_ (by decide)) (fun _ => ?_)
          refine lv_aload_n hx hb dX11_hardest_46 rfl (lv_at hl 1 rfl) ?_
          refine z_get C0 hP (C := RX11) (T := TX11) (N := 11) (ci := 9) (index := 44) (k := 0) (ref := "WetSuitPedalsShoes") (zk_lt (rfl : zk 0 = 9) (by decide)) (zd_9 E (rfl : zk 0 = 9) _) rfl (zmi inU_11) 6 (by decide) (zm flRX11_44) rfl (v := .ref (E.1 48)) (rfl) dX11_hardest_47 ?_
          refine lv_iload_n hx hb dX11_hardest_50 rfl (lv_at hl 0 rfl) ?_
          refine z_Vv C0 hP hD hA hS (As := [.int (0 : Int32)]) (rest := []) (k := 48) (c_X10_rideAt l E _ 48 n (0 : Int32) z_lit_Tri_48 ((congrFun ((hF14 _ (by decide)).trans ((hFGn_13 _ (by decide)).trans ((hF10 _ (by decide)).trans ((hFGn_9 _ (by decide)).trans ((hF6 _ (by decide)).trans (hFGn_5 _ (by decide))))))) _).trans (hTA3.1)) (by omega) ) (cwV 1 hts (zgV zbw mlRX11_187 imX10_rideAt seX10_rideAt iniRX10 coX10_rideAt) rfl rfl rfl (by decide +kernel) ⟨Nat.le_of_ble_eq_true rfl, Nat.le_of_ble_eq_true rfl⟩) (zk_lt (rfl : zk 48 = 8) (by decide)) (zd_8 E (rfl : zk 48 = 8) _) rfl rfl rfl hl.1 rfl (Nat.le_of_ble_eq_true rfl) dX11_hardest_51 ⟨Nat.zero_le _, Nat.zero_le _⟩ (fun G16 H locs hw16 hP hS => ?_)
          obtain rfl := hw16
          have hR16 := zTR_ride (v := (0 : Int32)) hTR14 hn10 (by omega)
          obtain ⟨Gn_17, hGn_17⟩ : ∃ z : zG, z = (g1 G14 55 (s_rides (G14 50) (G14 55) (0 : Int32) n)) := ⟨_, rfl⟩
          rw [← hGn_17] at hP
          have hFGn_17 : ∀ k, (k < 55 ∨ 55 < k) → Gn_17 k = G14 k := fun k hk => by rw [hGn_17]; exact g1_n (by omega)
          rw [show g1 _ (48 + 7) _ = Gn_17 from hGn_17.symm] at hR16
          refine lv_aload_n hx hb dX11_hardest_54 rfl (lv_at hl 1 rfl) ?_
          refine z_get C0 hP (C := RX11) (T := TX11) (N := 11) (ci := 9) (index := 44) (k := 0) (ref := "WetSuitPedalsShoes") (zk_lt (rfl : zk 0 = 9) (by decide)) (zd_9 E (rfl : zk 0 = 9) _) rfl (zmi inU_11) 6 (by decide) (zm flRX11_44) rfl (v := .ref (E.1 48)) (rfl) dX11_hardest_55 ?_
          refine z_Vi C0 hP hD hA hS (As := []) (rest := []) (k := 48) (c_X10_run l E _ 48 n z_lit_Tri_48 ((congrFun ((hFGn_17 _ (by decide)).trans ((hF14 _ (by decide)).trans ((hFGn_13 _ (by decide)).trans ((hF10 _ (by decide)).trans ((hFGn_9 _ (by decide)).trans ((hF6 _ (by decide)).trans (hFGn_5 _ (by decide)))))))) _).trans (hTA3.1)) (by omega)) (cwV 0 hts (zgV zbw mlRX11_168 imX10_run seX10_run iniRX10 coX10_run) rfl rfl rfl (by decide +kernel) ⟨Nat.le_of_ble_eq_true rfl, Nat.le_of_ble_eq_true rfl⟩) (zk_lt (rfl : zk 48 = 8) (by decide)) (zd_8 E (rfl : zk 48 = 8) _) rfl rfl rfl hl.1 rfl (Nat.le_of_ble_eq_true rfl) dX11_hardest_58 ⟨Nat.zero_le _, Nat.zero_le _⟩ (fun r18 G18 H locs hw18 hP hS => ?_)
          obtain ⟨hr18, hF18, hrow18⟩ := hw18
          have hTR18 := zTR_fr hR16.2 hF18
          have hq18 := q_hd_c hR16.1 hkd hn10 (by omega) hR16.2.2.2.2.2 (hF18 54 (by omega)) hrow18
          refine lv_pop hx hb dX11_hardest_61 rfl ?_
          refine lv_aload_n hx hb dX11_hardest_62 rfl (lv_at hl 1 rfl) ?_
          refine z_get C0 hP (C := RX11) (T := TX11) (N := 11) (ci := 9) (index := 44) (k := 0) (ref := "WetSuitPedalsShoes") (zk_lt (rfl : zk 0 = 9) (by decide)) (zd_9 E (rfl : zk 0 = 9) _) rfl (zmi inU_11) 6 (by decide) (zm flRX11_44) rfl (v := .ref (E.1 48)) (rfl) dX11_hardest_63 ?_
          refine z_Vi C0 hP hD hA hS (As := []) (rest := []) (k := 48) (c_X10_legsAtFinish l E _ 48 n  z_lit_Tri_48 ((congrFun ((hF18 _ (by decide)).trans ((hFGn_17 _ (by decide)).trans ((hF14 _ (by decide)).trans ((hFGn_13 _ (by decide)).trans ((hF10 _ (by decide)).trans ((hFGn_9 _ (by decide)).trans ((hF6 _ (by decide)).trans (hFGn_5 _ (by decide))))))))) _).trans (hTA3.1)) (by omega) ) (cwV 0 hts (zgV zbw mlRX11_191 imX10_legsAtFinish seX10_legsAtFinish iniRX10 coX10_legsAtFinish) rfl rfl rfl (by decide +kernel) ⟨Nat.le_of_ble_eq_true rfl, Nat.le_of_ble_eq_true rfl⟩) (zk_lt (rfl : zk 48 = 8) (by decide)) (zd_8 E (rfl : zk 48 = 8) _) rfl rfl rfl hl.1 rfl (Nat.le_of_ble_eq_true rfl) dX11_hardest_66 ⟨Nat.zero_le _, Nat.zero_le _⟩ (fun r19 G19 H locs hw19 hP hS => ?_)
          obtain ⟨hr19, rfl⟩ := hw19
          have hr19 : q_hd r n ia (0 : Int32) = _ := hq18.symm.trans hr19
          subst hr19
          refine lv_if_le (tgt := 74) hx hb dX11_hardest_69 (by decide) (fun c_69_3 => ?_) (fun c_69_3 => ?_)
          · skip
            have d_69_3 := Int32.not_lt.mpr c_69_3
            refine lv_iinc (v := (-1 : Int32)) (lv' := [(2, .int (-1 : Int32)), (0, .ref (E.1 0)), (1, .int (nI ia))]) hx hb dX11_hardest_74 hl (k := 0) rfl (by decide) (by decide) rfl (fun ls hl => ?_)
            refine lv_goto (tgt := 42) hx hb dX11_hardest_77 (by decide) ?_
            refine lv_iload_n hx hb dX11_hardest_42 rfl (lv_at hl 0 rfl) ?_
            refine lv_if_lt (tgt := 80) hx hb dX11_hardest_43 (by decide) (fun _ => ?_) (fun h_ => absurd (by decide) h_)
            refine lv_bipush (v := (-9 : Int32)) hx hb dX11_hardest_80 (by decide) ?_
            subst hQ_
            exact z_iret C0 hP hS (v := (-9 : Int32)) (by exact zQc_of (k := 0) (by simp [A_hardest, hz_ia, hy_ia, d_69, d_69_1, d_69_2, d_69_3]) (fun k hk => (hF18 k (by omega)).trans ((hFGn_17 k (by omega)).trans ((hF14 k (by omega)).trans ((hFGn_13 k (by omega)).trans ((hF10 k (by omega)).trans ((hFGn_9 k (by omega)).trans ((hF6 k (by omega)).trans ((hFGn_5 k (by omega)).trans (hF3 k (by omega)))))))))) ((hF18 _ (by decide)).trans ((hFGn_17 _ (by decide)).trans ((hF14 _ (by decide)).trans ((hFGn_13 _ (by decide)).trans ((hF10 _ (by decide)).trans ((hFGn_9 _ (by decide)).trans ((hF6 _ (by decide)).trans ((hFGn_5 _ (by decide)).trans (hF3 _ (by decide)))))))))) (z_plk ((hF18 _ (by decide)).trans ((hFGn_17 _ (by decide)).trans ((hF14 _ (by decide)).trans ((hFGn_13 _ (by decide)).trans ((hF10 _ (by decide)).trans ((hFGn_9 _ (by decide)).trans ((hF6 _ (by decide)).trans ((hFGn_5 _ (by decide)).trans (hF3 _ (by decide)))))))))) hp)) dX11_hardest_82
          · skip
            have d_69_3 := Int32.not_le.mp c_69_3
            refine lv_iload_n hx hb dX11_hardest_72 rfl (lv_at hl 0 rfl) ?_
            subst hQ_
            exact z_iret C0 hP hS (v := (0 : Int32)) (by exact zQc_of (k := 0) (by simp [A_hardest, hz_ia, hy_ia, d_69, d_69_1, d_69_2, d_69_3]) (fun k hk => (hF18 k (by omega)).trans ((hFGn_17 k (by omega)).trans ((hF14 k (by omega)).trans ((hFGn_13 k (by omega)).trans ((hF10 k (by omega)).trans ((hFGn_9 k (by omega)).trans ((hF6 k (by omega)).trans ((hFGn_5 k (by omega)).trans (hF3 k (by omega)))))))))) ((hF18 _ (by decide)).trans ((hFGn_17 _ (by decide)).trans ((hF14 _ (by decide)).trans ((hFGn_13 _ (by decide)).trans ((hF10 _ (by decide)).trans ((hFGn_9 _ (by decide)).trans ((hF6 _ (by decide)).trans ((hFGn_5 _ (by decide)).trans (hF3 _ (by decide)))))))))) (z_plk ((hF18 _ (by decide)).trans ((hFGn_17 _ (by decide)).trans ((hF14 _ (by decide)).trans ((hFGn_13 _ (by decide)).trans ((hF10 _ (by decide)).trans ((hFGn_9 _ (by decide)).trans ((hF6 _ (by decide)).trans ((hFGn_5 _ (by decide)).trans (hF3 _ (by decide)))))))))) hp)) dX11_hardest_73
        · skip
          have d_69_2 := Int32.not_le.mp c_69_2
          refine lv_iload_n hx hb dX11_hardest_72 rfl (lv_at hl 0 rfl) ?_
          subst hQ_
          exact z_iret C0 hP hS (v := (1 : Int32)) (by exact zQc_of (k := 0) (by simp [A_hardest, hz_ia, hy_ia, d_69, d_69_1, d_69_2]) (fun k hk => (hF14 k (by omega)).trans ((hFGn_13 k (by omega)).trans ((hF10 k (by omega)).trans ((hFGn_9 k (by omega)).trans ((hF6 k (by omega)).trans ((hFGn_5 k (by omega)).trans (hF3 k (by omega)))))))) ((hF14 _ (by decide)).trans ((hFGn_13 _ (by decide)).trans ((hF10 _ (by decide)).trans ((hFGn_9 _ (by decide)).trans ((hF6 _ (by decide)).trans ((hFGn_5 _ (by decide)).trans (hF3 _ (by decide)))))))) (z_plk ((hF14 _ (by decide)).trans ((hFGn_13 _ (by decide)).trans ((hF10 _ (by decide)).trans ((hFGn_9 _ (by decide)).trans ((hF6 _ (by decide)).trans ((hFGn_5 _ (by decide)).trans (hF3 _ (by decide)))))))) hp)) dX11_hardest_73
      · skip
        have d_69_1 := Int32.not_le.mp c_69_1
        refine lv_iload_n hx hb dX11_hardest_72 rfl (lv_at hl 0 rfl) ?_
        subst hQ_
        exact z_iret C0 hP hS (v := (2 : Int32)) (by exact zQc_of (k := 0) (by simp [A_hardest, hz_ia, hy_ia, d_69, d_69_1]) (fun k hk => (hF10 k (by omega)).trans ((hFGn_9 k (by omega)).trans ((hF6 k (by omega)).trans ((hFGn_5 k (by omega)).trans (hF3 k (by omega)))))) ((hF10 _ (by decide)).trans ((hFGn_9 _ (by decide)).trans ((hF6 _ (by decide)).trans ((hFGn_5 _ (by decide)).trans (hF3 _ (by decide)))))) (z_plk ((hF10 _ (by decide)).trans ((hFGn_9 _ (by decide)).trans ((hF6 _ (by decide)).trans ((hFGn_5 _ (by decide)).trans (hF3 _ (by decide)))))) hp)) dX11_hardest_73
    · skip
      have d_69 := Int32.not_le.mp c_69
      refine lv_iload_n hx hb dX11_hardest_72 rfl (lv_at hl 0 rfl) ?_
      subst hQ_
      exact z_iret C0 hP hS (v := (3 : Int32)) (by exact zQc_of (k := 0) (by simp [A_hardest, hz_ia, hy_ia, d_69]) (fun k hk => (hF6 k (by omega)).trans ((hFGn_5 k (by omega)).trans (hF3 k (by omega)))) ((hF6 _ (by decide)).trans ((hFGn_5 _ (by decide)).trans (hF3 _ (by decide)))) (z_plk ((hF6 _ (by decide)).trans ((hFGn_5 _ (by decide)).trans (hF3 _ (by decide)))) hp)) dX11_hardest_73
  · skip
    have hz_ia := zin_f (by omega) hno1
    refine lv_if_ne (tgt := 17) hx hb dX11_hardest_8 (by decide) (fun h_ => absurd (by decide) h_) (fun _ => ?_)
    refine lv_aload_n hx hb dX11_hardest_11 rfl (lv_at hl 0 rfl) ?_
    refine lv_iconst (v := (-1 : Int32)) hx hb dX11_hardest_12 (by decide) ?_
    refine z_Vi C0 hP hD hA hS (As := [.int (-1 : Int32)]) (rest := []) (k := 0) (c_X11_refuse l E _ (-1 : Int32) 1 (by decide) (by decide) (by decide)) (cwV 1 hts (zgV zbw mlRX11_72 imX11_refuse seX11_refuse iniRX11 coX11_refuse) rfl rfl rfl (by decide +kernel) ⟨Nat.le_of_ble_eq_true rfl, Nat.le_of_ble_eq_true rfl⟩) (zk_lt (rfl : zk 0 = 9) (by decide)) (zd_9 E (rfl : zk 0 = 9) _) rfl rfl rfl hl.1 rfl (Nat.le_of_ble_eq_true rfl) dX11_hardest_13 ⟨Nat.zero_le _, Nat.zero_le _⟩ (fun r20 G20 H locs hw20 hP hS => ?_)
    obtain ⟨rfl, rfl⟩ := hw20
    subst hQ_
    exact z_iret C0 hP hS (v := (-1 : Int32)) (by exact zQc_of (k := 1) (by simp [A_hardest, hz_ia]) (fun k hk => g1_n (by omega)) (g1_s _ _ _) (z_plk (g1_n (by decide)) hp)) dX11_hardest_16
set_option maxHeartbeats 4000000 in
set_option maxRecDepth 100000 in
theorem c_X12_hardest (l : Launch) (E : zE) (G : zG) (r : Nat → Int32) (n na : Nat) (athlete : Int32) (hM : G 93 = r) (hrn : r 0 = nI n) (hrna : r 1 = nI na) (hn10 : n ≤ 10) (hna : na ≤ 5) : zMi l yX12_hardest wsX12_hardest ({ frames := 6, cells := 0, slots := 0, locals := 142 } : Room) E G [.ref (E.1 92), .int athlete] (fun r1 G1 => zQm (A_hardest r n na athlete) G r1 G1) := by
  refine zOf (cc := cX12_hardest) (nL := 5) (ret := (some .int)) RX12 (by decide) rfl rfl (Nat.le_of_ble_eq_true rfl) ?_
  intro p_ e_ s_ m_ a_ b_ me_ c_ ls C0 hP hS hl
  have hx := C0.1
  have hb := C0.2.1
  have hts := C0.2.2.2.2.1
  have hD : zD E (zA E s_.heap.size) := C0.2.2.2.2.2.2.2.2
  have hA : ∀ q : Nat, s_.heap.size ≤ q → zA E s_.heap.size q := fun q h => Or.inr h
  refine z_gen (fun Q_ hQ_ => ?_)
  have hl : lv_has ls 5 [(0, .ref (E.1 92)), (1, .int athlete)] := hl
  refine lv_aload_n hx hb dX12_hardest_0 rfl (lv_at hl 0 rfl) ?_
  refine lv_iload_n hx hb dX12_hardest_1 rfl (lv_at hl 1 rfl) ?_
  refine z_Vi C0 hP hD hA hS (As := [.int athlete]) (rest := []) (k := 92) (c_X12_isAthlete l E _ na athlete ((congrFun (hM) _).trans (hrna)) (by omega)) (cwV 1 hts (zgV zbw mlRX12_136 imX12_isAthlete seX12_isAthlete iniRX12 coX12_isAthlete) rfl rfl rfl (by decide +kernel) ⟨Nat.le_of_ble_eq_true rfl, Nat.le_of_ble_eq_true rfl⟩) (zk_lt (rfl : zk 92 = 10) (by decide)) (zd_10 E (rfl : zk 92 = 10) _) rfl rfl rfl hl.1 rfl (Nat.le_of_ble_eq_true rfl) dX12_hardest_2 ⟨Nat.zero_le _, Nat.zero_le _⟩ (fun r1 G1 H locs hw1 hP hS => ?_)
  rcases hw1 with ⟨rfl, rfl, ia, hia, rfl⟩ | ⟨rfl, rfl, hno1⟩
  · skip
    have hz_ia := zin_t hia (by omega)
    have hy_ia : zix (nI ia) = ia := zix_n (by omega)
    refine lv_if_ne (tgt := 14) hx hb dX12_hardest_5 (by decide) (fun _ => ?_) (fun h_ => absurd h_ (by decide))
    refine lv_iconst (v := (3 : Int32)) hx hb dX12_hardest_14 (by decide) ?_
    refine lv_istore_n (lv' := [(2, .int (3 : Int32)), (0, .ref (E.1 92)), (1, .int (nI ia))]) hx hb dX12_hardest_15 rfl hl (by decide) rfl (fun ls hl => ?_)
    refine lv_iload_n hx hb dX12_hardest_16 rfl (lv_at hl 0 rfl) ?_
    refine lv_if_lt (tgt := 131) hx hb dX12_hardest_17 (by decide) (fun h_ => absurd h_ (by decide)) (fun _ => ?_)
    refine lv_aload_n hx hb dX12_hardest_20 rfl (lv_at hl 1 rfl) ?_
    refine z_get C0 hP (C := RX12) (T := TX12) (N := 21) (ci := 10) (index := 9) (k := 92) (ref := "WetSuitPedalsShoesModel") (zk_lt (rfl : zk 92 = 10) (by decide)) (zd_10 E (rfl : zk 92 = 10) _) rfl (zmi inU_12) 0 (by decide) (zm flRX12_9) rfl (v := .ref (E.1 93)) (rfl) dX12_hardest_21 ?_
    refine lv_aload_n hx hb dX12_hardest_24 rfl (lv_at hl 1 rfl) ?_
    refine z_get C0 hP (C := RX12) (T := TX12) (N := 21) (ci := 10) (index := 13) (k := 92) (ref := "WetSuitPedalsShoesModel") (zk_lt (rfl : zk 92 = 10) (by decide)) (zd_10 E (rfl : zk 92 = 10) _) rfl (zmi inU_12) 1 (by decide) (zm flRX12_13) rfl (v := .ref (E.1 94)) (rfl) dX12_hardest_25 ?_
    refine z_Sv C0 hP hD hA hS (As := [.ref (E.1 93), .ref (E.1 94)]) (rest := []) (c_X12_lays l E _ 93 94 z_lit_Arr102_93 z_lit_Arr102_94 (by decide)) (va_cwS 2 hts (zgS zbw mlRX12_149 stX12_lays iniRX12 coX12_lays) rfl rfl rfl (by decide +kernel) ⟨Nat.le_of_ble_eq_true rfl, Nat.le_of_ble_eq_true rfl⟩) rfl hl.1 rfl (Nat.le_of_ble_eq_true rfl) dX12_hardest_28 ⟨Nat.zero_le _, Nat.zero_le _⟩ (fun G2 H locs hw2 hP hS => ?_)
    obtain ⟨hF2, hcp2⟩ := hw2
    refine lv_iconst (v := (0 : Int32)) hx hb dX12_hardest_31 (by decide) ?_
    refine lv_istore_n (lv' := [(3, .int (0 : Int32)), (2, .int (3 : Int32)), (0, .ref (E.1 92)), (1, .int (nI ia))]) hx hb dX12_hardest_32 rfl hl (by decide) rfl (fun ls hl => ?_)
    have cut_33 : ∀ (fuel : Nat), ∀ (i : Nat) (f : Nat → Int32) (H : Heap) (locs : List Loc) (ls : Array Slot), (i ≤ n) → (∀ j, j < 102 → f j = s_rd r ia (3 : Int32) i j) → zP E (g1 G2 94 f) H → va_S (zA E s_.heap.size) s_.heap H locs → lv_has ls 5 [(0, .ref (E.1 92)), (1, .int (nI ia)), (2, .int (3 : Int32)), (3, .int (nI i))] → n - i < fuel → W p_ l e_ ({ frames := 6, cells := 0, slots := 0, locals := 142 } : Room) s_ m_ a_ b_ me_ c_ H locs 0 0 Q_ (F0 m_ 33 ls []) := by
      intro fuel
      induction fuel with
      | zero =>
        intro i  f  H locs ls hin hf hP hS hl hfu
        exact absurd hfu (Nat.not_lt_zero _)
      | succ fuel ih_33 =>
        intro i  f  H locs ls hin hf hP hS hl hfu_33
        refine lv_iload_n hx hb dX12_hardest_33 rfl (lv_at hl 3 rfl) ?_
        refine lv_aload_n hx hb dX12_hardest_34 rfl (lv_at hl 0 rfl) ?_
        refine z_get C0 hP (C := RX12) (T := TX12) (N := 21) (ci := 10) (index := 9) (k := 92) (ref := "WetSuitPedalsShoesModel") (zk_lt (rfl : zk 92 = 10) (by decide)) (zd_10 E (rfl : zk 92 = 10) _) rfl (zmi inU_12) 0 (by decide) (zm flRX12_9) rfl (v := .ref (E.1 93)) (rfl) dX12_hardest_35 ?_
        refine lv_iconst (v := (0 : Int32)) hx hb dX12_hardest_38 (by decide) ?_
        refine z_iald C0 hP (k := 93) (i := 0) (v := (nI n)) (rfl : zk 93 = 11) (Nat.lt_of_lt_of_eq (show 0 < 102 by decide) (rfl : zl 93 = 102).symm) rfl dX12_hardest_39 ((congrFun ((g1_n (by decide)).trans ((hF2 _ (by decide)).trans (hM))) _).trans (hrn)) ?_
        refine z_N_ge hx hb (a := i) (b := n) (tgt := 71) dX12_hardest_40 rfl rfl (by omega) (by omega) (by decide) (fun c_40 => ?_) (fun c_40 => ?_)
        · skip
          refine lv_aload_n hx hb dX12_hardest_71 rfl (lv_at hl 0 rfl) ?_
          refine lv_aload_n hx hb dX12_hardest_72 rfl (lv_at hl 0 rfl) ?_
          refine z_get C0 hP (C := RX12) (T := TX12) (N := 21) (ci := 10) (index := 13) (k := 92) (ref := "WetSuitPedalsShoesModel") (zk_lt (rfl : zk 92 = 10) (by decide)) (zd_10 E (rfl : zk 92 = 10) _) rfl (zmi inU_12) 1 (by decide) (zm flRX12_13) rfl (v := .ref (E.1 94)) (rfl) dX12_hardest_73 ?_
          refine lv_iload_n hx hb dX12_hardest_76 rfl (lv_at hl 1 rfl) ?_
          refine z_Vi C0 hP hD hA hS (As := [.ref (E.1 94), .int (nI ia)]) (rest := []) (k := 92) (c_X12_finishOf l E _ 94 ia n z_lit_Arr102_94 (by omega) ((congrFun (g1_s _ _ _) _).trans ((hf 0 (by decide)).trans ((s_rd_o _ 0 (by omega)).trans hrn))) (by omega) (by omega)) (cwV 2 hts (zgV zbw mlRX12_156 imX12_finishOf seX12_finishOf iniRX12 coX12_finishOf) rfl rfl rfl (by decide +kernel) ⟨Nat.le_of_ble_eq_true rfl, Nat.le_of_ble_eq_true rfl⟩) (zk_lt (rfl : zk 92 = 10) (by decide)) (zd_10 E (rfl : zk 92 = 10) _) rfl rfl rfl hl.1 rfl (Nat.le_of_ble_eq_true rfl) dX12_hardest_77 ⟨Nat.zero_le _, Nat.zero_le _⟩ (fun r3 G3 H locs hw3 hP hS => ?_)
          obtain ⟨hr3, hF3, hrow3⟩ := hw3
          rw [show (g1 G2 94 f) 94 = f from g1_s _ _ _] at hr3 hrow3
          refine lv_istore_n (lv' := [(3, .int r3), (0, .ref (E.1 92)), (1, .int (nI ia)), (2, .int (3 : Int32))]) hx hb dX12_hardest_80 rfl hl (by decide) rfl (fun ls hl => ?_)
          refine lv_aload_n hx hb dX12_hardest_81 rfl (lv_at hl 1 rfl) ?_
          refine z_get C0 hP (C := RX12) (T := TX12) (N := 21) (ci := 10) (index := 9) (k := 92) (ref := "WetSuitPedalsShoesModel") (zk_lt (rfl : zk 92 = 10) (by decide)) (zd_10 E (rfl : zk 92 = 10) _) rfl (zmi inU_12) 0 (by decide) (zm flRX12_9) rfl (v := .ref (E.1 93)) (rfl) dX12_hardest_82 ?_
          refine lv_iconst (v := (0 : Int32)) hx hb dX12_hardest_85 (by decide) ?_
          refine z_iald C0 hP (k := 93) (i := 0) (v := (nI n)) (rfl : zk 93 = 11) (Nat.lt_of_lt_of_eq (show 0 < 102 by decide) (rfl : zl 93 = 102).symm) rfl dX12_hardest_86 ((congrFun ((hF3 _ (by decide)).trans ((g1_n (by decide)).trans ((hF2 _ (by decide)).trans (hM)))) _).trans (hrn)) ?_
          refine z_0_ne hx hb (a := n) (tgt := 103) dX12_hardest_87 rfl (by omega) (by decide) (fun c_87 => ?_) (fun c_87 => ?_)
          · skip
            refine lv_aload_n hx hb dX12_hardest_103 rfl (lv_at hl 1 rfl) ?_
            refine z_get C0 hP (C := RX12) (T := TX12) (N := 21) (ci := 10) (index := 34) (k := 92) (ref := "WetSuitPedalsShoesModel") (zk_lt (rfl : zk 92 = 10) (by decide)) (zd_10 E (rfl : zk 92 = 10) _) rfl (zmi inU_12) 11 (by decide) (zm flRX12_34) rfl (v := .ref (E.1 101)) (rfl) dX12_hardest_104 ?_
            refine lv_aload_n hx hb dX12_hardest_107 rfl (lv_at hl 1 rfl) ?_
            refine z_get C0 hP (C := RX12) (T := TX12) (N := 21) (ci := 10) (index := 9) (k := 92) (ref := "WetSuitPedalsShoesModel") (zk_lt (rfl : zk 92 = 10) (by decide)) (zd_10 E (rfl : zk 92 = 10) _) rfl (zmi inU_12) 0 (by decide) (zm flRX12_9) rfl (v := .ref (E.1 93)) (rfl) dX12_hardest_108 ?_
            refine lv_iconst (v := (0 : Int32)) hx hb dX12_hardest_111 (by decide) ?_
            refine z_iald C0 hP (k := 93) (i := 0) (v := (nI n)) (rfl : zk 93 = 11) (Nat.lt_of_lt_of_eq (show 0 < 102 by decide) (rfl : zl 93 = 102).symm) rfl dX12_hardest_112 ((congrFun ((hF3 _ (by decide)).trans ((g1_n (by decide)).trans ((hF2 _ (by decide)).trans (hM)))) _).trans (hrn)) ?_
            refine lv_iconst (v := (1 : Int32)) hx hb dX12_hardest_113 (by decide) ?_
            refine z_isub hx hb (a := n) (b := 1) (n := n - 1) dX12_hardest_114 rfl rfl (by omega) (by omega) ?_
            refine z_iald C0 hP (k := 101) (i := n - 1) (v := ((m_run f ia (-1) (n - 1 + 1)).1)) (rfl : zk 101 = 11) (Nat.lt_of_lt_of_eq (show n - 1 < 10 by omega) (rfl : zl 101 = 10).symm) rfl dX12_hardest_115 ((hrow3 (n - 1) (by omega)).2.1) ?_
            refine lv_istore (lv' := [(4, .int ((m_run f ia (-1) (n - 1 + 1)).1)), (3, .int r3), (0, .ref (E.1 92)), (1, .int (nI ia)), (2, .int (3 : Int32))]) hx hb dX12_hardest_116 hl (by decide) rfl (fun ls hl => ?_)
            refine lv_iload hx hb dX12_hardest_118 (lv_at hl 0 rfl) ?_
            refine lv_if_le (tgt := 125) hx hb dX12_hardest_120 (by decide) (fun c_120 => ?_) (fun c_120 => ?_)
            · skip
              have d_120 := Int32.not_lt.mpr c_120
              have e_120 := q_hd_m (v := (3 : Int32)) c_87 hin c_40 (by omega) (by omega) hf
              rw [← e_120] at d_120
              refine lv_iinc (v := (2 : Int32)) (lv' := [(2, .int (2 : Int32)), (4, .int ((m_run f ia (-1) (n - 1 + 1)).1)), (3, .int r3), (0, .ref (E.1 92)), (1, .int (nI ia))]) hx hb dX12_hardest_125 hl (k := 4) rfl (by decide) (by decide) rfl (fun ls hl => ?_)
              refine lv_goto (tgt := 16) hx hb dX12_hardest_128 (by decide) ?_
              refine lv_iload_n hx hb dX12_hardest_16 rfl (lv_at hl 0 rfl) ?_
              refine lv_if_lt (tgt := 131) hx hb dX12_hardest_17 (by decide) (fun h_ => absurd h_ (by decide)) (fun _ => ?_)
              refine lv_aload_n hx hb dX12_hardest_20 rfl (lv_at hl 3 rfl) ?_
              refine z_get C0 hP (C := RX12) (T := TX12) (N := 21) (ci := 10) (index := 9) (k := 92) (ref := "WetSuitPedalsShoesModel") (zk_lt (rfl : zk 92 = 10) (by decide)) (zd_10 E (rfl : zk 92 = 10) _) rfl (zmi inU_12) 0 (by decide) (zm flRX12_9) rfl (v := .ref (E.1 93)) (rfl) dX12_hardest_21 ?_
              refine lv_aload_n hx hb dX12_hardest_24 rfl (lv_at hl 3 rfl) ?_
              refine z_get C0 hP (C := RX12) (T := TX12) (N := 21) (ci := 10) (index := 13) (k := 92) (ref := "WetSuitPedalsShoesModel") (zk_lt (rfl : zk 92 = 10) (by decide)) (zd_10 E (rfl : zk 92 = 10) _) rfl (zmi inU_12) 1 (by decide) (zm flRX12_13) rfl (v := .ref (E.1 94)) (rfl) dX12_hardest_25 ?_
              refine z_Sv C0 hP hD hA hS (As := [.ref (E.1 93), .ref (E.1 94)]) (rest := []) (c_X12_lays l E _ 93 94 z_lit_Arr102_93 z_lit_Arr102_94 (by decide)) (va_cwS 2 hts (zgS zbw mlRX12_149 stX12_lays iniRX12 coX12_lays) rfl rfl rfl (by decide +kernel) ⟨Nat.le_of_ble_eq_true rfl, Nat.le_of_ble_eq_true rfl⟩) rfl hl.1 rfl (Nat.le_of_ble_eq_true rfl) dX12_hardest_28 ⟨Nat.zero_le _, Nat.zero_le _⟩ (fun G4 H locs hw4 hP hS => ?_)
              obtain ⟨hF4, hcp4⟩ := hw4
              refine lv_iconst (v := (0 : Int32)) hx hb dX12_hardest_31 (by decide) ?_
              refine lv_istore_n (lv' := [(3, .int (0 : Int32)), (2, .int (2 : Int32)), (4, .int ((m_run f ia (-1) (n - 1 + 1)).1)), (0, .ref (E.1 92)), (1, .int (nI ia))]) hx hb dX12_hardest_32 rfl hl (by decide) rfl (fun ls hl => ?_)
              have cut_33 : ∀ (fuel : Nat), ∀ (i : Nat) (f : Nat → Int32) (H : Heap) (locs : List Loc) (ls : Array Slot), (i ≤ n) → (∀ j, j < 102 → f j = s_rd r ia (2 : Int32) i j) → zP E (g1 G4 94 f) H → va_S (zA E s_.heap.size) s_.heap H locs → lv_has ls 5 [(0, .ref (E.1 92)), (1, .int (nI ia)), (2, .int (2 : Int32)), (3, .int (nI i))] → n - i < fuel → W p_ l e_ ({ frames := 6, cells := 0, slots := 0, locals := 142 } : Room) s_ m_ a_ b_ me_ c_ H locs 0 0 Q_ (F0 m_ 33 ls []) := by
                intro fuel
                induction fuel with
                | zero =>
                  intro i  f  H locs ls hin hf hP hS hl hfu
                  exact absurd hfu (Nat.not_lt_zero _)
                | succ fuel ih_33 =>
                  intro i  f  H locs ls hin hf hP hS hl hfu_33
                  refine lv_iload_n hx hb dX12_hardest_33 rfl (lv_at hl 3 rfl) ?_
                  refine lv_aload_n hx hb dX12_hardest_34 rfl (lv_at hl 0 rfl) ?_
                  refine z_get C0 hP (C := RX12) (T := TX12) (N := 21) (ci := 10) (index := 9) (k := 92) (ref := "WetSuitPedalsShoesModel") (zk_lt (rfl : zk 92 = 10) (by decide)) (zd_10 E (rfl : zk 92 = 10) _) rfl (zmi inU_12) 0 (by decide) (zm flRX12_9) rfl (v := .ref (E.1 93)) (rfl) dX12_hardest_35 ?_
                  refine lv_iconst (v := (0 : Int32)) hx hb dX12_hardest_38 (by decide) ?_
                  refine z_iald C0 hP (k := 93) (i := 0) (v := (nI n)) (rfl : zk 93 = 11) (Nat.lt_of_lt_of_eq (show 0 < 102 by decide) (rfl : zl 93 = 102).symm) rfl dX12_hardest_39 ((congrFun ((g1_n (by decide)).trans ((hF4 _ (by decide)).trans ((hF3 _ (by decide)).trans ((g1_n (by decide)).trans ((hF2 _ (by decide)).trans (hM)))))) _).trans (hrn)) ?_
                  refine z_N_ge hx hb (a := i) (b := n) (tgt := 71) dX12_hardest_40 rfl rfl (by omega) (by omega) (by decide) (fun c_40_1 => ?_) (fun c_40_1 => ?_)
                  · skip
                    refine lv_aload_n hx hb dX12_hardest_71 rfl (lv_at hl 0 rfl) ?_
                    refine lv_aload_n hx hb dX12_hardest_72 rfl (lv_at hl 0 rfl) ?_
                    refine z_get C0 hP (C := RX12) (T := TX12) (N := 21) (ci := 10) (index := 13) (k := 92) (ref := "WetSuitPedalsShoesModel") (zk_lt (rfl : zk 92 = 10) (by decide)) (zd_10 E (rfl : zk 92 = 10) _) rfl (zmi inU_12) 1 (by decide) (zm flRX12_13) rfl (v := .ref (E.1 94)) (rfl) dX12_hardest_73 ?_
                    refine lv_iload_n hx hb dX12_hardest_76 rfl (lv_at hl 1 rfl) ?_
                    refine z_Vi C0 hP hD hA hS (As := [.ref (E.1 94), .int (nI ia)]) (rest := []) (k := 92) (c_X12_finishOf l E _ 94 ia n z_lit_Arr102_94 (by omega) ((congrFun (g1_s _ _ _) _).trans ((hf 0 (by decide)).trans ((s_rd_o _ 0 (by omega)).trans hrn))) (by omega) (by omega)) (cwV 2 hts (zgV zbw mlRX12_156 imX12_finishOf seX12_finishOf iniRX12 coX12_finishOf) rfl rfl rfl (by decide +kernel) ⟨Nat.le_of_ble_eq_true rfl, Nat.le_of_ble_eq_true rfl⟩) (zk_lt (rfl : zk 92 = 10) (by decide)) (zd_10 E (rfl : zk 92 = 10) _) rfl rfl rfl hl.1 rfl (Nat.le_of_ble_eq_true rfl) dX12_hardest_77 ⟨Nat.zero_le _, Nat.zero_le _⟩ (fun r5 G5 H locs hw5 hP hS => ?_)
                    obtain ⟨hr5, hF5, hrow5⟩ := hw5
                    rw [show (g1 G4 94 f) 94 = f from g1_s _ _ _] at hr5 hrow5
                    refine lv_istore_n (lv' := [(3, .int r5), (0, .ref (E.1 92)), (1, .int (nI ia)), (2, .int (2 : Int32))]) hx hb dX12_hardest_80 rfl hl (by decide) rfl (fun ls hl => ?_)
                    refine lv_aload_n hx hb dX12_hardest_81 rfl (lv_at hl 1 rfl) ?_
                    refine z_get C0 hP (C := RX12) (T := TX12) (N := 21) (ci := 10) (index := 9) (k := 92) (ref := "WetSuitPedalsShoesModel") (zk_lt (rfl : zk 92 = 10) (by decide)) (zd_10 E (rfl : zk 92 = 10) _) rfl (zmi inU_12) 0 (by decide) (zm flRX12_9) rfl (v := .ref (E.1 93)) (rfl) dX12_hardest_82 ?_
                    refine lv_iconst (v := (0 : Int32)) hx hb dX12_hardest_85 (by decide) ?_
                    refine z_iald C0 hP (k := 93) (i := 0) (v := (nI n)) (rfl : zk 93 = 11) (Nat.lt_of_lt_of_eq (show 0 < 102 by decide) (rfl : zl 93 = 102).symm) rfl dX12_hardest_86 ((congrFun ((hF5 _ (by decide)).trans ((g1_n (by decide)).trans ((hF4 _ (by decide)).trans ((hF3 _ (by decide)).trans ((g1_n (by decide)).trans ((hF2 _ (by decide)).trans (hM))))))) _).trans (hrn)) ?_
                    refine z_0_ne hx hb (a := n) (tgt := 103) dX12_hardest_87 rfl (by omega) (by decide) (fun c_87_1 => ?_) (fun c_87_1 => ?_)
                    · skip
                      refine lv_aload_n hx hb dX12_hardest_103 rfl (lv_at hl 1 rfl) ?_
                      refine z_get C0 hP (C := RX12) (T := TX12) (N := 21) (ci := 10) (index := 34) (k := 92) (ref := "WetSuitPedalsShoesModel") (zk_lt (rfl : zk 92 = 10) (by decide)) (zd_10 E (rfl : zk 92 = 10) _) rfl (zmi inU_12) 11 (by decide) (zm flRX12_34) rfl (v := .ref (E.1 101)) (rfl) dX12_hardest_104 ?_
                      refine lv_aload_n hx hb dX12_hardest_107 rfl (lv_at hl 1 rfl) ?_
                      refine z_get C0 hP (C := RX12) (T := TX12) (N := 21) (ci := 10) (index := 9) (k := 92) (ref := "WetSuitPedalsShoesModel") (zk_lt (rfl : zk 92 = 10) (by decide)) (zd_10 E (rfl : zk 92 = 10) _) rfl (zmi inU_12) 0 (by decide) (zm flRX12_9) rfl (v := .ref (E.1 93)) (rfl) dX12_hardest_108 ?_
                      refine lv_iconst (v := (0 : Int32)) hx hb dX12_hardest_111 (by decide) ?_
                      refine z_iald C0 hP (k := 93) (i := 0) (v := (nI n)) (rfl : zk 93 = 11) (Nat.lt_of_lt_of_eq (show 0 < 102 by decide) (rfl : zl 93 = 102).symm) rfl dX12_hardest_112 ((congrFun ((hF5 _ (by decide)).trans ((g1_n (by decide)).trans ((hF4 _ (by decide)).trans ((hF3 _ (by decide)).trans ((g1_n (by decide)).trans ((hF2 _ (by decide)).trans (hM))))))) _).trans (hrn)) ?_
                      refine lv_iconst (v := (1 : Int32)) hx hb dX12_hardest_113 (by decide) ?_
                      refine z_isub hx hb (a := n) (b := 1) (n := n - 1) dX12_hardest_114 rfl rfl (by omega) (by omega) ?_
                      refine z_iald C0 hP (k := 101) (i := n - 1) (v := ((m_run f ia (-1) (n - 1 + 1)).1)) (rfl : zk 101 = 11) (Nat.lt_of_lt_of_eq (show n - 1 < 10 by omega) (rfl : zl 101 = 10).symm) rfl dX12_hardest_115 ((hrow5 (n - 1) (by omega)).2.1) ?_
                      refine lv_istore (lv' := [(4, .int ((m_run f ia (-1) (n - 1 + 1)).1)), (3, .int r5), (0, .ref (E.1 92)), (1, .int (nI ia)), (2, .int (2 : Int32))]) hx hb dX12_hardest_116 hl (by decide) rfl (fun ls hl => ?_)
                      refine lv_iload hx hb dX12_hardest_118 (lv_at hl 0 rfl) ?_
                      refine lv_if_le (tgt := 125) hx hb dX12_hardest_120 (by decide) (fun c_120_1 => ?_) (fun c_120_1 => ?_)
                      · skip
                        have d_120_1 := Int32.not_lt.mpr c_120_1
                        have e_120_1 := q_hd_m (v := (2 : Int32)) c_87_1 hin c_40_1 (by omega) (by omega) hf
                        rw [← e_120_1] at d_120_1
                        refine lv_iinc (v := (1 : Int32)) (lv' := [(2, .int (1 : Int32)), (4, .int ((m_run f ia (-1) (n - 1 + 1)).1)), (3, .int r5), (0, .ref (E.1 92)), (1, .int (nI ia))]) hx hb dX12_hardest_125 hl (k := 4) rfl (by decide) (by decide) rfl (fun ls hl => ?_)
                        refine lv_goto (tgt := 16) hx hb dX12_hardest_128 (by decide) ?_
                        refine lv_iload_n hx hb dX12_hardest_16 rfl (lv_at hl 0 rfl) ?_
                        refine lv_if_lt (tgt := 131) hx hb dX12_hardest_17 (by decide) (fun h_ => absurd h_ (by decide)) (fun _ => ?_)
                        refine lv_aload_n hx hb dX12_hardest_20 rfl (lv_at hl 3 rfl) ?_
                        refine z_get C0 hP (C := RX12) (T := TX12) (N := 21) (ci := 10) (index := 9) (k := 92) (ref := "WetSuitPedalsShoesModel") (zk_lt (rfl : zk 92 = 10) (by decide)) (zd_10 E (rfl : zk 92 = 10) _) rfl (zmi inU_12) 0 (by decide) (zm flRX12_9) rfl (v := .ref (E.1 93)) (rfl) dX12_hardest_21 ?_
                        refine lv_aload_n hx hb dX12_hardest_24 rfl (lv_at hl 3 rfl) ?_
                        refine z_get C0 hP (C := RX12) (T := TX12) (N := 21) (ci := 10) (index := 13) (k := 92) (ref := "WetSuitPedalsShoesModel") (zk_lt (rfl : zk 92 = 10) (by decide)) (zd_10 E (rfl : zk 92 = 10) _) rfl (zmi inU_12) 1 (by decide) (zm flRX12_13) rfl (v := .ref (E.1 94)) (rfl) dX12_hardest_25 ?_
                        refine z_Sv C0 hP hD hA hS (As := [.ref (E.1 93), .ref (E.1 94)]) (rest := []) (c_X12_lays l E _ 93 94 z_lit_Arr102_93 z_lit_Arr102_94 (by decide)) (va_cwS 2 hts (zgS zbw mlRX12_149 stX12_lays iniRX12 coX12_lays) rfl rfl rfl (by decide +kernel) ⟨Nat.le_of_ble_eq_true rfl, Nat.le_of_ble_eq_true rfl⟩) rfl hl.1 rfl (Nat.le_of_ble_eq_true rfl) dX12_hardest_28 ⟨Nat.zero_le _, Nat.zero_le _⟩ (fun G6 H locs hw6 hP hS => ?_)
                        obtain ⟨hF6, hcp6⟩ := hw6
                        refine lv_iconst (v := (0 : Int32)) hx hb dX12_hardest_31 (by decide) ?_
                        refine lv_istore_n (lv' := [(3, .int (0 : Int32)), (2, .int (1 : Int32)), (4, .int ((m_run f ia (-1) (n - 1 + 1)).1)), (0, .ref (E.1 92)), (1, .int (nI ia))]) hx hb dX12_hardest_32 rfl hl (by decide) rfl (fun ls hl => ?_)
                        have cut_33 : ∀ (fuel : Nat), ∀ (i : Nat) (f : Nat → Int32) (H : Heap) (locs : List Loc) (ls : Array Slot), (i ≤ n) → (∀ j, j < 102 → f j = s_rd r ia (1 : Int32) i j) → zP E (g1 G6 94 f) H → va_S (zA E s_.heap.size) s_.heap H locs → lv_has ls 5 [(0, .ref (E.1 92)), (1, .int (nI ia)), (2, .int (1 : Int32)), (3, .int (nI i))] → n - i < fuel → W p_ l e_ ({ frames := 6, cells := 0, slots := 0, locals := 142 } : Room) s_ m_ a_ b_ me_ c_ H locs 0 0 Q_ (F0 m_ 33 ls []) := by
                          intro fuel
                          induction fuel with
                          | zero =>
                            intro i  f  H locs ls hin hf hP hS hl hfu
                            exact absurd hfu (Nat.not_lt_zero _)
                          | succ fuel ih_33 =>
                            intro i  f  H locs ls hin hf hP hS hl hfu_33
                            refine lv_iload_n hx hb dX12_hardest_33 rfl (lv_at hl 3 rfl) ?_
                            refine lv_aload_n hx hb dX12_hardest_34 rfl (lv_at hl 0 rfl) ?_
                            refine z_get C0 hP (C := RX12) (T := TX12) (N := 21) (ci := 10) (index := 9) (k := 92) (ref := "WetSuitPedalsShoesModel") (zk_lt (rfl : zk 92 = 10) (by decide)) (zd_10 E (rfl : zk 92 = 10) _) rfl (zmi inU_12) 0 (by decide) (zm flRX12_9) rfl (v := .ref (E.1 93)) (rfl) dX12_hardest_35 ?_
                            refine lv_iconst (v := (0 : Int32)) hx hb dX12_hardest_38 (by decide) ?_
                            refine z_iald C0 hP (k := 93) (i := 0) (v := (nI n)) (rfl : zk 93 = 11) (Nat.lt_of_lt_of_eq (show 0 < 102 by decide) (rfl : zl 93 = 102).symm) rfl dX12_hardest_39 ((congrFun ((g1_n (by decide)).trans ((hF6 _ (by decide)).trans ((hF5 _ (by decide)).trans ((g1_n (by decide)).trans ((hF4 _ (by decide)).trans ((hF3 _ (by decide)).trans ((g1_n (by decide)).trans ((hF2 _ (by decide)).trans (hM))))))))) _).trans (hrn)) ?_
                            refine z_N_ge hx hb (a := i) (b := n) (tgt := 71) dX12_hardest_40 rfl rfl (by omega) (by omega) (by decide) (fun c_40_2 => ?_) (fun c_40_2 => ?_)
                            · skip
                              refine lv_aload_n hx hb dX12_hardest_71 rfl (lv_at hl 0 rfl) ?_
                              refine lv_aload_n hx hb dX12_hardest_72 rfl (lv_at hl 0 rfl) ?_
                              refine z_get C0 hP (C := RX12) (T := TX12) (N := 21) (ci := 10) (index := 13) (k := 92) (ref := "WetSuitPedalsShoesModel") (zk_lt (rfl : zk 92 = 10) (by decide)) (zd_10 E (rfl : zk 92 = 10) _) rfl (zmi inU_12) 1 (by decide) (zm flRX12_13) rfl (v := .ref (E.1 94)) (rfl) dX12_hardest_73 ?_
                              refine lv_iload_n hx hb dX12_hardest_76 rfl (lv_at hl 1 rfl) ?_
                              refine z_Vi C0 hP hD hA hS (As := [.ref (E.1 94), .int (nI ia)]) (rest := []) (k := 92) (c_X12_finishOf l E _ 94 ia n z_lit_Arr102_94 (by omega) ((congrFun (g1_s _ _ _) _).trans ((hf 0 (by decide)).trans ((s_rd_o _ 0 (by omega)).trans hrn))) (by omega) (by omega)) (cwV 2 hts (zgV zbw mlRX12_156 imX12_finishOf seX12_finishOf iniRX12 coX12_finishOf) rfl rfl rfl (by decide +kernel) ⟨Nat.le_of_ble_eq_true rfl, Nat.le_of_ble_eq_true rfl⟩) (zk_lt (rfl : zk 92 = 10) (by decide)) (zd_10 E (rfl : zk 92 = 10) _) rfl rfl rfl hl.1 rfl (Nat.le_of_ble_eq_true rfl) dX12_hardest_77 ⟨Nat.zero_le _, Nat.zero_le _⟩ (fun r7 G7 H locs hw7 hP hS => ?_)
                              obtain ⟨hr7, hF7, hrow7⟩ := hw7
                              rw [show (g1 G6 94 f) 94 = f from g1_s _ _ _] at hr7 hrow7
                              refine lv_istore_n (lv' := [(3, .int r7), (0, .ref (E.1 92)), (1, .int (nI ia)), (2, .int (1 : Int32))]) hx hb dX12_hardest_80 rfl hl (by decide) rfl (fun ls hl => ?_)
                              refine lv_aload_n hx hb dX12_hardest_81 rfl (lv_at hl 1 rfl) ?_
                              refine z_get C0 hP (C := RX12) (T := TX12) (N := 21) (ci := 10) (index := 9) (k := 92) (ref := "WetSuitPedalsShoesModel") (zk_lt (rfl : zk 92 = 10) (by decide)) (zd_10 E (rfl : zk 92 = 10) _) rfl (zmi inU_12) 0 (by decide) (zm flRX12_9) rfl (v := .ref (E.1 93)) (rfl) dX12_hardest_82 ?_
                              refine lv_iconst (v := (0 : Int32)) hx hb dX12_hardest_85 (by decide) ?_
                              refine z_iald C0 hP (k := 93) (i := 0) (v := (nI n)) (rfl : zk 93 = 11) (Nat.lt_of_lt_of_eq (show 0 < 102 by decide) (rfl : zl 93 = 102).symm) rfl dX12_hardest_86 ((congrFun ((hF7 _ (by decide)).trans ((g1_n (by decide)).trans ((hF6 _ (by decide)).trans ((hF5 _ (by decide)).trans ((g1_n (by decide)).trans ((hF4 _ (by decide)).trans ((hF3 _ (by decide)).trans ((g1_n (by decide)).trans ((hF2 _ (by decide)).trans (hM)))))))))) _).trans (hrn)) ?_
                              refine z_0_ne hx hb (a := n) (tgt := 103) dX12_hardest_87 rfl (by omega) (by decide) (fun c_87_2 => ?_) (fun c_87_2 => ?_)
                              · skip
                                refine lv_aload_n hx hb dX12_hardest_103 rfl (lv_at hl 1 rfl) ?_
                                refine z_get C0 hP (C := RX12) (T := TX12) (N := 21) (ci := 10) (index := 34) (k := 92) (ref := "WetSuitPedalsShoesModel") (zk_lt (rfl : zk 92 = 10) (by decide)) (zd_10 E (rfl : zk 92 = 10) _) rfl (zmi inU_12) 11 (by decide) (zm flRX12_34) rfl (v := .ref (E.1 101)) (rfl) dX12_hardest_104 ?_
                                refine lv_aload_n hx hb dX12_hardest_107 rfl (lv_at hl 1 rfl) ?_
                                refine z_get C0 hP (C := RX12) (T := TX12) (N := 21) (ci := 10) (index := 9) (k := 92) (ref := "WetSuitPedalsShoesModel") (zk_lt (rfl : zk 92 = 10) (by decide)) (zd_10 E (rfl : zk 92 = 10) _) rfl (zmi inU_12) 0 (by decide) (zm flRX12_9) rfl (v := .ref (E.1 93)) (rfl) dX12_hardest_108 ?_
                                refine lv_iconst (v := (0 : Int32)) hx hb dX12_hardest_111 (by decide) ?_
                                refine z_iald C0 hP (k := 93) (i := 0) (v := (nI n)) (rfl : zk 93 = 11) (Nat.lt_of_lt_of_eq (show 0 < 102 by decide) (rfl : zl 93 = 102).symm) rfl dX12_hardest_112 ((congrFun ((hF7 _ (by decide)).trans ((g1_n (by decide)).trans ((hF6 _ (by decide)).trans ((hF5 _ (by decide)).trans ((g1_n (by decide)).trans ((hF4 _ (by decide)).trans ((hF3 _ (by decide)).trans ((g1_n (by decide)).trans ((hF2 _ (by decide)).trans (hM)))))))))) _).trans (hrn)) ?_
                                refine lv_iconst (v := (1 : Int32)) hx hb dX12_hardest_113 (by decide) ?_
                                refine z_isub hx hb (a := n) (b := 1) (n := n - 1) dX12_hardest_114 rfl rfl (by omega) (by omega) ?_
                                refine z_iald C0 hP (k := 101) (i := n - 1) (v := ((m_run f ia (-1) (n - 1 + 1)).1)) (rfl : zk 101 = 11) (Nat.lt_of_lt_of_eq (show n - 1 < 10 by omega) (rfl : zl 101 = 10).symm) rfl dX12_hardest_115 ((hrow7 (n - 1) (by omega)).2.1) ?_
                                refine lv_istore (lv' := [(4, .int ((m_run f ia (-1) (n - 1 + 1)).1)), (3, .int r7), (0, .ref (E.1 92)), (1, .int (nI ia)), (2, .int (1 : Int32))]) hx hb dX12_hardest_116 hl (by decide) rfl (fun ls hl => ?_)
                                refine lv_iload hx hb dX12_hardest_118 (lv_at hl 0 rfl) ?_
                                refine lv_if_le (tgt := 125) hx hb dX12_hardest_120 (by decide) (fun c_120_2 => ?_) (fun c_120_2 => ?_)
                                · skip
                                  have d_120_2 := Int32.not_lt.mpr c_120_2
                                  have e_120_2 := q_hd_m (v := (1 : Int32)) c_87_2 hin c_40_2 (by omega) (by omega) hf
                                  rw [← e_120_2] at d_120_2
                                  refine lv_iinc (v := (0 : Int32)) (lv' := [(2, .int (0 : Int32)), (4, .int ((m_run f ia (-1) (n - 1 + 1)).1)), (3, .int r7), (0, .ref (E.1 92)), (1, .int (nI ia))]) hx hb dX12_hardest_125 hl (k := 4) rfl (by decide) (by decide) rfl (fun ls hl => ?_)
                                  refine lv_goto (tgt := 16) hx hb dX12_hardest_128 (by decide) ?_
                                  refine lv_iload_n hx hb dX12_hardest_16 rfl (lv_at hl 0 rfl) ?_
                                  refine lv_if_lt (tgt := 131) hx hb dX12_hardest_17 (by decide) (fun h_ => absurd h_ (by decide)) (fun _ => ?_)
                                  refine lv_aload_n hx hb dX12_hardest_20 rfl (lv_at hl 3 rfl) ?_
                                  refine z_get C0 hP (C := RX12) (T := TX12) (N := 21) (ci := 10) (index := 9) (k := 92) (ref := "WetSuitPedalsShoesModel") (zk_lt (rfl : zk 92 = 10) (by decide)) (zd_10 E (rfl : zk 92 = 10) _) rfl (zmi inU_12) 0 (by decide) (zm flRX12_9) rfl (v := .ref (E.1 93)) (rfl) dX12_hardest_21 ?_
                                  refine lv_aload_n hx hb dX12_hardest_24 rfl (lv_at hl 3 rfl) ?_
                                  refine z_get C0 hP (C := RX12) (T := TX12) (N := 21) (ci := 10) (index := 13) (k := 92) (ref := "WetSuitPedalsShoesModel") (zk_lt (rfl : zk 92 = 10) (by decide)) (zd_10 E (rfl : zk 92 = 10) _) rfl (zmi inU_12) 1 (by decide) (zm flRX12_13) rfl (v := .ref (E.1 94)) (rfl) dX12_hardest_25 ?_
                                  refine z_Sv C0 hP hD hA hS (As := [.ref (E.1 93), .ref (E.1 94)]) (rest := []) (c_X12_lays l E _ 93 94 z_lit_Arr102_93 z_lit_Arr102_94 (by decide)) (va_cwS 2 hts (zgS zbw mlRX12_149 stX12_lays iniRX12 coX12_lays) rfl rfl rfl (by decide +kernel) ⟨Nat.le_of_ble_eq_true rfl, Nat.le_of_ble_eq_true rfl⟩) rfl hl.1 rfl (Nat.le_of_ble_eq_true rfl) dX12_hardest_28 ⟨Nat.zero_le _, Nat.zero_le _⟩ (fun G8 H locs hw8 hP hS => ?_)
                                  obtain ⟨hF8, hcp8⟩ := hw8
                                  refine lv_iconst (v := (0 : Int32)) hx hb dX12_hardest_31 (by decide) ?_
                                  refine lv_istore_n (lv' := [(3, .int (0 : Int32)), (2, .int (0 : Int32)), (4, .int ((m_run f ia (-1) (n - 1 + 1)).1)), (0, .ref (E.1 92)), (1, .int (nI ia))]) hx hb dX12_hardest_32 rfl hl (by decide) rfl (fun ls hl => ?_)
                                  have cut_33 : ∀ (fuel : Nat), ∀ (i : Nat) (f : Nat → Int32) (H : Heap) (locs : List Loc) (ls : Array Slot), (i ≤ n) → (∀ j, j < 102 → f j = s_rd r ia (0 : Int32) i j) → zP E (g1 G8 94 f) H → va_S (zA E s_.heap.size) s_.heap H locs → lv_has ls 5 [(0, .ref (E.1 92)), (1, .int (nI ia)), (2, .int (0 : Int32)), (3, .int (nI i))] → n - i < fuel → W p_ l e_ ({ frames := 6, cells := 0, slots := 0, locals := 142 } : Room) s_ m_ a_ b_ me_ c_ H locs 0 0 Q_ (F0 m_ 33 ls []) := by
                                    intro fuel
                                    induction fuel with
                                    | zero =>
                                      intro i  f  H locs ls hin hf hP hS hl hfu
                                      exact absurd hfu (Nat.not_lt_zero _)
                                    | succ fuel ih_33 =>
                                      intro i  f  H locs ls hin hf hP hS hl hfu_33
                                      refine lv_iload_n hx hb dX12_hardest_33 rfl (lv_at hl 3 rfl) ?_
                                      refine lv_aload_n hx hb dX12_hardest_34 rfl (lv_at hl 0 rfl) ?_
                                      refine z_get C0 hP (C := RX12) (T := TX12) (N := 21) (ci := 10) (index := 9) (k := 92) (ref := "WetSuitPedalsShoesModel") (zk_lt (rfl : zk 92 = 10) (by decide)) (zd_10 E (rfl : zk 92 = 10) _) rfl (zmi inU_12) 0 (by decide) (zm flRX12_9) rfl (v := .ref (E.1 93)) (rfl) dX12_hardest_35 ?_
                                      refine lv_iconst (v := (0 : Int32)) hx hb dX12_hardest_38 (by decide) ?_
                                      refine z_iald C0 hP (k := 93) (i := 0) (v := (nI n)) (rfl : zk 93 = 11) (Nat.lt_of_lt_of_eq (show 0 < 102 by decide) (rfl : zl 93 = 102).symm) rfl dX12_hardest_39 ((congrFun ((g1_n (by decide)).trans ((hF8 _ (by decide)).trans ((hF7 _ (by decide)).trans ((g1_n (by decide)).trans ((hF6 _ (by decide)).trans ((hF5 _ (by decide)).trans ((g1_n (by decide)).trans ((hF4 _ (by decide)).trans ((hF3 _ (by decide)).trans ((g1_n (by decide)).trans ((hF2 _ (by decide)).trans (hM)))))))))))) _).trans (hrn)) ?_
                                      refine z_N_ge hx hb (a := i) (b := n) (tgt := 71) dX12_hardest_40 rfl rfl (by omega) (by omega) (by decide) (fun c_40_3 => ?_) (fun c_40_3 => ?_)
                                      · skip
                                        refine lv_aload_n hx hb dX12_hardest_71 rfl (lv_at hl 0 rfl) ?_
                                        refine lv_aload_n hx hb dX12_hardest_72 rfl (lv_at hl 0 rfl) ?_
                                        refine z_get C0 hP (C := RX12) (T := TX12) (N := 21) (ci := 10) (index := 13) (k := 92) (ref := "WetSuitPedalsShoesModel") (zk_lt (rfl : zk 92 = 10) (by decide)) (zd_10 E (rfl : zk 92 = 10) _) rfl (zmi inU_12) 1 (by decide) (zm flRX12_13) rfl (v := .ref (E.1 94)) (rfl) dX12_hardest_73 ?_
                                        refine lv_iload_n hx hb dX12_hardest_76 rfl (lv_at hl 1 rfl) ?_
                                        refine z_Vi C0 hP hD hA hS (As := [.ref (E.1 94), .int (nI ia)]) (rest := []) (k := 92) (c_X12_finishOf l E _ 94 ia n z_lit_Arr102_94 (by omega) ((congrFun (g1_s _ _ _) _).trans ((hf 0 (by decide)).trans ((s_rd_o _ 0 (by omega)).trans hrn))) (by omega) (by omega)) (cwV 2 hts (zgV zbw mlRX12_156 imX12_finishOf seX12_finishOf iniRX12 coX12_finishOf) rfl rfl rfl (by decide +kernel) ⟨Nat.le_of_ble_eq_true rfl, Nat.le_of_ble_eq_true rfl⟩) (zk_lt (rfl : zk 92 = 10) (by decide)) (zd_10 E (rfl : zk 92 = 10) _) rfl rfl rfl hl.1 rfl (Nat.le_of_ble_eq_true rfl) dX12_hardest_77 ⟨Nat.zero_le _, Nat.zero_le _⟩ (fun r9 G9 H locs hw9 hP hS => ?_)
                                        obtain ⟨hr9, hF9, hrow9⟩ := hw9
                                        rw [show (g1 G8 94 f) 94 = f from g1_s _ _ _] at hr9 hrow9
                                        refine lv_istore_n (lv' := [(3, .int r9), (0, .ref (E.1 92)), (1, .int (nI ia)), (2, .int (0 : Int32))]) hx hb dX12_hardest_80 rfl hl (by decide) rfl (fun ls hl => ?_)
                                        refine lv_aload_n hx hb dX12_hardest_81 rfl (lv_at hl 1 rfl) ?_
                                        refine z_get C0 hP (C := RX12) (T := TX12) (N := 21) (ci := 10) (index := 9) (k := 92) (ref := "WetSuitPedalsShoesModel") (zk_lt (rfl : zk 92 = 10) (by decide)) (zd_10 E (rfl : zk 92 = 10) _) rfl (zmi inU_12) 0 (by decide) (zm flRX12_9) rfl (v := .ref (E.1 93)) (rfl) dX12_hardest_82 ?_
                                        refine lv_iconst (v := (0 : Int32)) hx hb dX12_hardest_85 (by decide) ?_
                                        refine z_iald C0 hP (k := 93) (i := 0) (v := (nI n)) (rfl : zk 93 = 11) (Nat.lt_of_lt_of_eq (show 0 < 102 by decide) (rfl : zl 93 = 102).symm) rfl dX12_hardest_86 ((congrFun ((hF9 _ (by decide)).trans ((g1_n (by decide)).trans ((hF8 _ (by decide)).trans ((hF7 _ (by decide)).trans ((g1_n (by decide)).trans ((hF6 _ (by decide)).trans ((hF5 _ (by decide)).trans ((g1_n (by decide)).trans ((hF4 _ (by decide)).trans ((hF3 _ (by decide)).trans ((g1_n (by decide)).trans ((hF2 _ (by decide)).trans (hM))))))))))))) _).trans (hrn)) ?_
                                        refine z_0_ne hx hb (a := n) (tgt := 103) dX12_hardest_87 rfl (by omega) (by decide) (fun c_87_3 => ?_) (fun c_87_3 => ?_)
                                        · skip
                                          refine lv_aload_n hx hb dX12_hardest_103 rfl (lv_at hl 1 rfl) ?_
                                          refine z_get C0 hP (C := RX12) (T := TX12) (N := 21) (ci := 10) (index := 34) (k := 92) (ref := "WetSuitPedalsShoesModel") (zk_lt (rfl : zk 92 = 10) (by decide)) (zd_10 E (rfl : zk 92 = 10) _) rfl (zmi inU_12) 11 (by decide) (zm flRX12_34) rfl (v := .ref (E.1 101)) (rfl) dX12_hardest_104 ?_
                                          refine lv_aload_n hx hb dX12_hardest_107 rfl (lv_at hl 1 rfl) ?_
                                          refine z_get C0 hP (C := RX12) (T := TX12) (N := 21) (ci := 10) (index := 9) (k := 92) (ref := "WetSuitPedalsShoesModel") (zk_lt (rfl : zk 92 = 10) (by decide)) (zd_10 E (rfl : zk 92 = 10) _) rfl (zmi inU_12) 0 (by decide) (zm flRX12_9) rfl (v := .ref (E.1 93)) (rfl) dX12_hardest_108 ?_
                                          refine lv_iconst (v := (0 : Int32)) hx hb dX12_hardest_111 (by decide) ?_
                                          refine z_iald C0 hP (k := 93) (i := 0) (v := (nI n)) (rfl : zk 93 = 11) (Nat.lt_of_lt_of_eq (show 0 < 102 by decide) (rfl : zl 93 = 102).symm) rfl dX12_hardest_112 ((congrFun ((hF9 _ (by decide)).trans ((g1_n (by decide)).trans ((hF8 _ (by decide)).trans ((hF7 _ (by decide)).trans ((g1_n (by decide)).trans ((hF6 _ (by decide)).trans ((hF5 _ (by decide)).trans ((g1_n (by decide)).trans ((hF4 _ (by decide)).trans ((hF3 _ (by decide)).trans ((g1_n (by decide)).trans ((hF2 _ (by decide)).trans (hM))))))))))))) _).trans (hrn)) ?_
                                          refine lv_iconst (v := (1 : Int32)) hx hb dX12_hardest_113 (by decide) ?_
                                          refine z_isub hx hb (a := n) (b := 1) (n := n - 1) dX12_hardest_114 rfl rfl (by omega) (by omega) ?_
                                          refine z_iald C0 hP (k := 101) (i := n - 1) (v := ((m_run f ia (-1) (n - 1 + 1)).1)) (rfl : zk 101 = 11) (Nat.lt_of_lt_of_eq (show n - 1 < 10 by omega) (rfl : zl 101 = 10).symm) rfl dX12_hardest_115 ((hrow9 (n - 1) (by omega)).2.1) ?_
                                          refine lv_istore (lv' := [(4, .int ((m_run f ia (-1) (n - 1 + 1)).1)), (3, .int r9), (0, .ref (E.1 92)), (1, .int (nI ia)), (2, .int (0 : Int32))]) hx hb dX12_hardest_116 hl (by decide) rfl (fun ls hl => ?_)
                                          refine lv_iload hx hb dX12_hardest_118 (lv_at hl 0 rfl) ?_
                                          refine lv_if_le (tgt := 125) hx hb dX12_hardest_120 (by decide) (fun c_120_3 => ?_) (fun c_120_3 => ?_)
                                          · skip
                                            have d_120_3 := Int32.not_lt.mpr c_120_3
                                            have e_120_3 := q_hd_m (v := (0 : Int32)) c_87_3 hin c_40_3 (by omega) (by omega) hf
                                            rw [← e_120_3] at d_120_3
                                            refine lv_iinc (v := (-1 : Int32)) (lv' := [(2, .int (-1 : Int32)), (4, .int ((m_run f ia (-1) (n - 1 + 1)).1)), (3, .int r9), (0, .ref (E.1 92)), (1, .int (nI ia))]) hx hb dX12_hardest_125 hl (k := 4) rfl (by decide) (by decide) rfl (fun ls hl => ?_)
                                            refine lv_goto (tgt := 16) hx hb dX12_hardest_128 (by decide) ?_
                                            refine lv_iload_n hx hb dX12_hardest_16 rfl (lv_at hl 0 rfl) ?_
                                            refine lv_if_lt (tgt := 131) hx hb dX12_hardest_17 (by decide) (fun _ => ?_) (fun h_ => absurd (by decide) h_)
                                            refine lv_bipush (v := (-9 : Int32)) hx hb dX12_hardest_131 (by decide) ?_
                                            subst hQ_
                                            exact z_iret C0 hP hS (v := (-9 : Int32)) (by exact zQm_of (k := 0) (by simp [A_hardest, hz_ia, hy_ia, d_120, d_120_1, d_120_2, d_120_3]) (fun k hk => (hF9 k (by omega)).trans ((g1_n (by omega)).trans ((hF8 k (by omega)).trans ((hF7 k (by omega)).trans ((g1_n (by omega)).trans ((hF6 k (by omega)).trans ((hF5 k (by omega)).trans ((g1_n (by omega)).trans ((hF4 k (by omega)).trans ((hF3 k (by omega)).trans ((g1_n (by omega)).trans (hF2 k (by omega))))))))))))) ((hF9 _ (by decide)).trans ((g1_n (by decide)).trans ((hF8 _ (by decide)).trans ((hF7 _ (by decide)).trans ((g1_n (by decide)).trans ((hF6 _ (by decide)).trans ((hF5 _ (by decide)).trans ((g1_n (by decide)).trans ((hF4 _ (by decide)).trans ((hF3 _ (by decide)).trans ((g1_n (by decide)).trans (hF2 _ (by decide)))))))))))))) dX12_hardest_133
                                          · skip
                                            have d_120_3 := Int32.not_le.mp c_120_3
                                            have e_120_3 := q_hd_m (v := (0 : Int32)) c_87_3 hin c_40_3 (by omega) (by omega) hf
                                            rw [← e_120_3] at d_120_3
                                            refine lv_iload_n hx hb dX12_hardest_123 rfl (lv_at hl 4 rfl) ?_
                                            subst hQ_
                                            exact z_iret C0 hP hS (v := (0 : Int32)) (by exact zQm_of (k := 0) (by simp [A_hardest, hz_ia, hy_ia, d_120, d_120_1, d_120_2, d_120_3]) (fun k hk => (hF9 k (by omega)).trans ((g1_n (by omega)).trans ((hF8 k (by omega)).trans ((hF7 k (by omega)).trans ((g1_n (by omega)).trans ((hF6 k (by omega)).trans ((hF5 k (by omega)).trans ((g1_n (by omega)).trans ((hF4 k (by omega)).trans ((hF3 k (by omega)).trans ((g1_n (by omega)).trans (hF2 k (by omega))))))))))))) ((hF9 _ (by decide)).trans ((g1_n (by decide)).trans ((hF8 _ (by decide)).trans ((hF7 _ (by decide)).trans ((g1_n (by decide)).trans ((hF6 _ (by decide)).trans ((hF5 _ (by decide)).trans ((g1_n (by decide)).trans ((hF4 _ (by decide)).trans ((hF3 _ (by decide)).trans ((g1_n (by decide)).trans (hF2 _ (by decide)))))))))))))) dX12_hardest_124
                                        · skip
                                          refine lv_aload_n hx hb dX12_hardest_90 rfl (lv_at hl 1 rfl) ?_
                                          refine z_get C0 hP (C := RX12) (T := TX12) (N := 21) (ci := 10) (index := 9) (k := 92) (ref := "WetSuitPedalsShoesModel") (zk_lt (rfl : zk 92 = 10) (by decide)) (zd_10 E (rfl : zk 92 = 10) _) rfl (zmi inU_12) 0 (by decide) (zm flRX12_9) rfl (v := .ref (E.1 93)) (rfl) dX12_hardest_91 ?_
                                          refine lv_iload_n hx hb dX12_hardest_94 rfl (lv_at hl 2 rfl) ?_
                                          refine lv_iconst (v := (3 : Int32)) hx hb dX12_hardest_95 (by decide) ?_
                                          refine z_Si C0 hP hD hA hS (As := [.int (nI ia), .int (3 : Int32)]) (rest := [.ref (E.1 93)]) (c_X12_athleteAt l E _ ia 3) (va_cwS 2 hts (zgS zbw mlRX12_70 stX12_athleteAt iniRX12 coX12_athleteAt) rfl rfl rfl (by decide +kernel) ⟨Nat.le_of_ble_eq_true rfl, Nat.le_of_ble_eq_true rfl⟩) rfl hl.1 rfl (Nat.le_of_ble_eq_true rfl) dX12_hardest_96 ⟨Nat.zero_le _, Nat.zero_le _⟩ (fun r10 G10 H locs hw10 hP hS => ?_)
                                          obtain ⟨hr10, rfl⟩ := hw10
                                          subst hr10
                                          refine z_eqi (y := (nI (35 + 4 * ia))) (congrArg nI (by omega)) ?_
                                          refine z_iald C0 hP (k := 93) (i := 35 + 4 * ia) (v := (r (35 + 4 * ia))) (rfl : zk 93 = 11) (Nat.lt_of_lt_of_eq (show 35 + 4 * ia < 102 by omega) (rfl : zl 93 = 102).symm) rfl dX12_hardest_99 (congrFun ((hF9 _ (by decide)).trans ((g1_n (by decide)).trans ((hF8 _ (by decide)).trans ((hF7 _ (by decide)).trans ((g1_n (by decide)).trans ((hF6 _ (by decide)).trans ((hF5 _ (by decide)).trans ((g1_n (by decide)).trans ((hF4 _ (by decide)).trans ((hF3 _ (by decide)).trans ((g1_n (by decide)).trans ((hF2 _ (by decide)).trans (hM))))))))))))) _) ?_
                                          refine lv_goto (tgt := 116) hx hb dX12_hardest_100 (by decide) ?_
                                          refine lv_istore (lv' := [(4, .int (r (35 + 4 * ia))), (3, .int r9), (0, .ref (E.1 92)), (1, .int (nI ia)), (2, .int (0 : Int32))]) hx hb dX12_hardest_116 hl (by decide) rfl (fun ls hl => ?_)
                                          refine lv_iload hx hb dX12_hardest_118 (lv_at hl 0 rfl) ?_
                                          refine lv_if_le (tgt := 125) hx hb dX12_hardest_120 (by decide) (fun c_120_3 => ?_) (fun c_120_3 => ?_)
                                          · skip
                                            have d_120_3 := Int32.not_lt.mpr c_120_3
                                            have e_120_3 := q_hd_0 (r := r) (a := ia) (v := (0 : Int32)) c_87_3
                                            rw [← e_120_3] at d_120_3
                                            refine lv_iinc (v := (-1 : Int32)) (lv' := [(2, .int (-1 : Int32)), (4, .int (r (35 + 4 * ia))), (3, .int r9), (0, .ref (E.1 92)), (1, .int (nI ia))]) hx hb dX12_hardest_125 hl (k := 4) rfl (by decide) (by decide) rfl (fun ls hl => ?_)
                                            refine lv_goto (tgt := 16) hx hb dX12_hardest_128 (by decide) ?_
                                            refine lv_iload_n hx hb dX12_hardest_16 rfl (lv_at hl 0 rfl) ?_
                                            refine lv_if_lt (tgt := 131) hx hb dX12_hardest_17 (by decide) (fun _ => ?_) (fun h_ => absurd (by decide) h_)
                                            refine lv_bipush (v := (-9 : Int32)) hx hb dX12_hardest_131 (by decide) ?_
                                            subst hQ_
                                            exact z_iret C0 hP hS (v := (-9 : Int32)) (by exact zQm_of (k := 0) (by simp [A_hardest, hz_ia, hy_ia, d_120, d_120_1, d_120_2, d_120_3]) (fun k hk => (hF9 k (by omega)).trans ((g1_n (by omega)).trans ((hF8 k (by omega)).trans ((hF7 k (by omega)).trans ((g1_n (by omega)).trans ((hF6 k (by omega)).trans ((hF5 k (by omega)).trans ((g1_n (by omega)).trans ((hF4 k (by omega)).trans ((hF3 k (by omega)).trans ((g1_n (by omega)).trans (hF2 k (by omega))))))))))))) ((hF9 _ (by decide)).trans ((g1_n (by decide)).trans ((hF8 _ (by decide)).trans ((hF7 _ (by decide)).trans ((g1_n (by decide)).trans ((hF6 _ (by decide)).trans ((hF5 _ (by decide)).trans ((g1_n (by decide)).trans ((hF4 _ (by decide)).trans ((hF3 _ (by decide)).trans ((g1_n (by decide)).trans (hF2 _ (by decide)))))))))))))) dX12_hardest_133
                                          · skip
                                            have d_120_3 := Int32.not_le.mp c_120_3
                                            have e_120_3 := q_hd_0 (r := r) (a := ia) (v := (0 : Int32)) c_87_3
                                            rw [← e_120_3] at d_120_3
                                            refine lv_iload_n hx hb dX12_hardest_123 rfl (lv_at hl 4 rfl) ?_
                                            subst hQ_
                                            exact z_iret C0 hP hS (v := (0 : Int32)) (by exact zQm_of (k := 0) (by simp [A_hardest, hz_ia, hy_ia, d_120, d_120_1, d_120_2, d_120_3]) (fun k hk => (hF9 k (by omega)).trans ((g1_n (by omega)).trans ((hF8 k (by omega)).trans ((hF7 k (by omega)).trans ((g1_n (by omega)).trans ((hF6 k (by omega)).trans ((hF5 k (by omega)).trans ((g1_n (by omega)).trans ((hF4 k (by omega)).trans ((hF3 k (by omega)).trans ((g1_n (by omega)).trans (hF2 k (by omega))))))))))))) ((hF9 _ (by decide)).trans ((g1_n (by decide)).trans ((hF8 _ (by decide)).trans ((hF7 _ (by decide)).trans ((g1_n (by decide)).trans ((hF6 _ (by decide)).trans ((hF5 _ (by decide)).trans ((g1_n (by decide)).trans ((hF4 _ (by decide)).trans ((hF3 _ (by decide)).trans ((g1_n (by decide)).trans (hF2 _ (by decide)))))))))))))) dX12_hardest_124
                                      · skip
                                        refine lv_aload_n hx hb dX12_hardest_43 rfl (lv_at hl 0 rfl) ?_
                                        refine z_get C0 hP (C := RX12) (T := TX12) (N := 21) (ci := 10) (index := 9) (k := 92) (ref := "WetSuitPedalsShoesModel") (zk_lt (rfl : zk 92 = 10) (by decide)) (zd_10 E (rfl : zk 92 = 10) _) rfl (zmi inU_12) 0 (by decide) (zm flRX12_9) rfl (v := .ref (E.1 93)) (rfl) dX12_hardest_44 ?_
                                        refine lv_iload_n hx hb dX12_hardest_47 rfl (lv_at hl 3 rfl) ?_
                                        refine z_Si C0 hP hD hA hS (As := [.ref (E.1 93), .int (nI i)]) (rest := []) (c_X12_isRide l E _ 93 i z_lit_Arr102_93 (by omega)) (va_cwS 2 hts (zgS zbw mlRX12_73 stX12_isRide iniRX12 coX12_isRide) rfl rfl rfl (by decide +kernel) ⟨Nat.le_of_ble_eq_true rfl, Nat.le_of_ble_eq_true rfl⟩) rfl hl.1 rfl (Nat.le_of_ble_eq_true rfl) dX12_hardest_48 ⟨Nat.zero_le _, Nat.zero_le _⟩ (fun r11 G11 H locs hw11 hP hS => ?_)
                                        obtain ⟨hr11, rfl⟩ := hw11
                                        have hr11 : s_isRide (r (2 + 3 * i)) = _ := (congrArg (fun z_ : Nat → Int32 => s_isRide (z_ (2 + 3 * i))) (show (g1 G8 94 f) 93 = r from (g1_n (by decide)).trans ((hF8 _ (by decide)).trans ((hF7 _ (by decide)).trans ((g1_n (by decide)).trans ((hF6 _ (by decide)).trans ((hF5 _ (by decide)).trans ((g1_n (by decide)).trans ((hF4 _ (by decide)).trans ((hF3 _ (by decide)).trans ((g1_n (by decide)).trans ((hF2 _ (by decide)).trans (hM))))))))))))).symm.trans hr11
                                        subst hr11
                                        refine lv_if_eq (tgt := 65) hx hb dX12_hardest_51 (by decide) (fun c_51 => ?_) (fun c_51 => ?_)
                                        · skip
                                          refine lv_iinc (v := (nI (i + 1))) (lv' := [(3, .int (nI (i + 1))), (0, .ref (E.1 92)), (1, .int (nI ia)), (2, .int (0 : Int32))]) hx hb dX12_hardest_65 hl (k := 3) rfl (z_inc (by decide)) (by decide) rfl (fun ls hl => ?_)
                                          refine lv_goto (tgt := 33) hx hb dX12_hardest_68 (by decide) ?_
                                          exact ih_33 (i + 1) f _ _ _ (by first | assumption | omega) (by intro j hj; rw [s_rd_n (fun q => by rw [c_51] at q; exact absurd q (by decide))]; exact hf j hj) hP hS (lv_sub hl [1, 2, 3, 0] rfl) (by omega)
                                        · skip
                                          refine lv_aload_n hx hb dX12_hardest_54 rfl (lv_at hl 0 rfl) ?_
                                          refine z_get C0 hP (C := RX12) (T := TX12) (N := 21) (ci := 10) (index := 13) (k := 92) (ref := "WetSuitPedalsShoesModel") (zk_lt (rfl : zk 92 = 10) (by decide)) (zd_10 E (rfl : zk 92 = 10) _) rfl (zmi inU_12) 1 (by decide) (zm flRX12_13) rfl (v := .ref (E.1 94)) (rfl) dX12_hardest_55 ?_
                                          refine lv_iload_n hx hb dX12_hardest_58 rfl (lv_at hl 1 rfl) ?_
                                          refine lv_iload_n hx hb dX12_hardest_59 rfl (lv_at hl 3 rfl) ?_
                                          refine z_Si C0 hP hD hA hS (As := [.int (nI ia), .int (nI i)]) (rest := [.ref (E.1 94)]) (c_X12_tried l E _ ia i) (va_cwS 2 hts (zgS zbw mlRX12_91 stX12_tried iniRX12 coX12_tried) rfl rfl rfl (by decide +kernel) ⟨Nat.le_of_ble_eq_true rfl, Nat.le_of_ble_eq_true rfl⟩) rfl hl.1 rfl (Nat.le_of_ble_eq_true rfl) dX12_hardest_60 ⟨Nat.zero_le _, Nat.zero_le _⟩ (fun r12 G12 H locs hw12 hP hS => ?_)
                                          obtain ⟨hr12, rfl⟩ := hw12
                                          subst hr12
                                          refine z_eqi (y := (nI (52 + 10 * ia + i))) (congrArg nI (by omega)) ?_
                                          refine lv_iload_n hx hb dX12_hardest_63 rfl (lv_at hl 2 rfl) ?_
                                          refine z_iast C0 hP hD hS (k := 94) (i := 52 + 10 * ia + i) (v := (0 : Int32)) (F := f) (g1_s _ _ _) (rfl : zk 94 = 11) (Nat.lt_of_lt_of_eq (show 52 + 10 * ia + i < 102 by omega) (rfl : zl 94 = 102).symm) rfl dX12_hardest_64 (fun H locs hP hS => ?_)
                                          have hP := zP_eq (g1_t _ _ _ _ : _ = (g1 G8 94 (upd f (52 + 10 * ia + i) (0 : Int32)))) hP
                                          refine lv_iinc (v := (nI (i + 1))) (lv' := [(3, .int (nI (i + 1))), (0, .ref (E.1 92)), (1, .int (nI ia)), (2, .int (0 : Int32))]) hx hb dX12_hardest_65 hl (k := 3) rfl (z_inc (by decide)) (by decide) rfl (fun ls hl => ?_)
                                          refine lv_goto (tgt := 33) hx hb dX12_hardest_68 (by decide) ?_
                                          exact ih_33 (i + 1) (upd f (52 + 10 * ia + i) (0 : Int32)) _ _ _ (by first | assumption | omega) (by intro j hj; rw [s_rd_y (s_ride_ne c_51)]; exact upd_c hf j hj) hP hS (lv_sub hl [1, 2, 3, 0] rfl) (by omega)
                                  exact cut_33 (_ + 1) 0 (G8 94) _ _ _ (by first | assumption | omega) (by exact (fun j hj => (hcp8 j hj).trans (congrFun ((hF7 _ (by decide)).trans ((g1_n (by decide)).trans ((hF6 _ (by decide)).trans ((hF5 _ (by decide)).trans ((g1_n (by decide)).trans ((hF4 _ (by decide)).trans ((hF3 _ (by decide)).trans ((g1_n (by decide)).trans ((hF2 _ (by decide)).trans (hM)))))))))) j))) (zP_eq ((g1_e G8 94).symm) hP) hS (lv_sub hl [3, 4, 1, 0] rfl) (Nat.lt_succ_self _)
                                · skip
                                  have d_120_2 := Int32.not_le.mp c_120_2
                                  have e_120_2 := q_hd_m (v := (1 : Int32)) c_87_2 hin c_40_2 (by omega) (by omega) hf
                                  rw [← e_120_2] at d_120_2
                                  refine lv_iload_n hx hb dX12_hardest_123 rfl (lv_at hl 4 rfl) ?_
                                  subst hQ_
                                  exact z_iret C0 hP hS (v := (1 : Int32)) (by exact zQm_of (k := 0) (by simp [A_hardest, hz_ia, hy_ia, d_120, d_120_1, d_120_2]) (fun k hk => (hF7 k (by omega)).trans ((g1_n (by omega)).trans ((hF6 k (by omega)).trans ((hF5 k (by omega)).trans ((g1_n (by omega)).trans ((hF4 k (by omega)).trans ((hF3 k (by omega)).trans ((g1_n (by omega)).trans (hF2 k (by omega)))))))))) ((hF7 _ (by decide)).trans ((g1_n (by decide)).trans ((hF6 _ (by decide)).trans ((hF5 _ (by decide)).trans ((g1_n (by decide)).trans ((hF4 _ (by decide)).trans ((hF3 _ (by decide)).trans ((g1_n (by decide)).trans (hF2 _ (by decide))))))))))) dX12_hardest_124
                              · skip
                                refine lv_aload_n hx hb dX12_hardest_90 rfl (lv_at hl 1 rfl) ?_
                                refine z_get C0 hP (C := RX12) (T := TX12) (N := 21) (ci := 10) (index := 9) (k := 92) (ref := "WetSuitPedalsShoesModel") (zk_lt (rfl : zk 92 = 10) (by decide)) (zd_10 E (rfl : zk 92 = 10) _) rfl (zmi inU_12) 0 (by decide) (zm flRX12_9) rfl (v := .ref (E.1 93)) (rfl) dX12_hardest_91 ?_
                                refine lv_iload_n hx hb dX12_hardest_94 rfl (lv_at hl 2 rfl) ?_
                                refine lv_iconst (v := (3 : Int32)) hx hb dX12_hardest_95 (by decide) ?_
                                refine z_Si C0 hP hD hA hS (As := [.int (nI ia), .int (3 : Int32)]) (rest := [.ref (E.1 93)]) (c_X12_athleteAt l E _ ia 3) (va_cwS 2 hts (zgS zbw mlRX12_70 stX12_athleteAt iniRX12 coX12_athleteAt) rfl rfl rfl (by decide +kernel) ⟨Nat.le_of_ble_eq_true rfl, Nat.le_of_ble_eq_true rfl⟩) rfl hl.1 rfl (Nat.le_of_ble_eq_true rfl) dX12_hardest_96 ⟨Nat.zero_le _, Nat.zero_le _⟩ (fun r13 G13 H locs hw13 hP hS => ?_)
                                obtain ⟨hr13, rfl⟩ := hw13
                                subst hr13
                                refine z_eqi (y := (nI (35 + 4 * ia))) (congrArg nI (by omega)) ?_
                                refine z_iald C0 hP (k := 93) (i := 35 + 4 * ia) (v := (r (35 + 4 * ia))) (rfl : zk 93 = 11) (Nat.lt_of_lt_of_eq (show 35 + 4 * ia < 102 by omega) (rfl : zl 93 = 102).symm) rfl dX12_hardest_99 (congrFun ((hF7 _ (by decide)).trans ((g1_n (by decide)).trans ((hF6 _ (by decide)).trans ((hF5 _ (by decide)).trans ((g1_n (by decide)).trans ((hF4 _ (by decide)).trans ((hF3 _ (by decide)).trans ((g1_n (by decide)).trans ((hF2 _ (by decide)).trans (hM)))))))))) _) ?_
                                refine lv_goto (tgt := 116) hx hb dX12_hardest_100 (by decide) ?_
                                refine lv_istore (lv' := [(4, .int (r (35 + 4 * ia))), (3, .int r7), (0, .ref (E.1 92)), (1, .int (nI ia)), (2, .int (1 : Int32))]) hx hb dX12_hardest_116 hl (by decide) rfl (fun ls hl => ?_)
                                refine lv_iload hx hb dX12_hardest_118 (lv_at hl 0 rfl) ?_
                                refine lv_if_le (tgt := 125) hx hb dX12_hardest_120 (by decide) (fun c_120_2 => ?_) (fun c_120_2 => ?_)
                                · skip
                                  have d_120_2 := Int32.not_lt.mpr c_120_2
                                  have e_120_2 := q_hd_0 (r := r) (a := ia) (v := (1 : Int32)) c_87_2
                                  rw [← e_120_2] at d_120_2
                                  refine lv_iinc (v := (0 : Int32)) (lv' := [(2, .int (0 : Int32)), (4, .int (r (35 + 4 * ia))), (3, .int r7), (0, .ref (E.1 92)), (1, .int (nI ia))]) hx hb dX12_hardest_125 hl (k := 4) rfl (by decide) (by decide) rfl (fun ls hl => ?_)
                                  refine lv_goto (tgt := 16) hx hb dX12_hardest_128 (by decide) ?_
                                  refine lv_iload_n hx hb dX12_hardest_16 rfl (lv_at hl 0 rfl) ?_
                                  refine lv_if_lt (tgt := 131) hx hb dX12_hardest_17 (by decide) (fun h_ => absurd h_ (by decide)) (fun _ => ?_)
                                  refine lv_aload_n hx hb dX12_hardest_20 rfl (lv_at hl 3 rfl) ?_
                                  refine z_get C0 hP (C := RX12) (T := TX12) (N := 21) (ci := 10) (index := 9) (k := 92) (ref := "WetSuitPedalsShoesModel") (zk_lt (rfl : zk 92 = 10) (by decide)) (zd_10 E (rfl : zk 92 = 10) _) rfl (zmi inU_12) 0 (by decide) (zm flRX12_9) rfl (v := .ref (E.1 93)) (rfl) dX12_hardest_21 ?_
                                  refine lv_aload_n hx hb dX12_hardest_24 rfl (lv_at hl 3 rfl) ?_
                                  refine z_get C0 hP (C := RX12) (T := TX12) (N := 21) (ci := 10) (index := 13) (k := 92) (ref := "WetSuitPedalsShoesModel") (zk_lt (rfl : zk 92 = 10) (by decide)) (zd_10 E (rfl : zk 92 = 10) _) rfl (zmi inU_12) 1 (by decide) (zm flRX12_13) rfl (v := .ref (E.1 94)) (rfl) dX12_hardest_25 ?_
                                  refine z_Sv C0 hP hD hA hS (As := [.ref (E.1 93), .ref (E.1 94)]) (rest := []) (c_X12_lays l E _ 93 94 z_lit_Arr102_93 z_lit_Arr102_94 (by decide)) (va_cwS 2 hts (zgS zbw mlRX12_149 stX12_lays iniRX12 coX12_lays) rfl rfl rfl (by decide +kernel) ⟨Nat.le_of_ble_eq_true rfl, Nat.le_of_ble_eq_true rfl⟩) rfl hl.1 rfl (Nat.le_of_ble_eq_true rfl) dX12_hardest_28 ⟨Nat.zero_le _, Nat.zero_le _⟩ (fun G14 H locs hw14 hP hS => ?_)
                                  obtain ⟨hF14, hcp14⟩ := hw14
                                  refine lv_iconst (v := (0 : Int32)) hx hb dX12_hardest_31 (by decide) ?_
                                  refine lv_istore_n (lv' := [(3, .int (0 : Int32)), (2, .int (0 : Int32)), (4, .int (r (35 + 4 * ia))), (0, .ref (E.1 92)), (1, .int (nI ia))]) hx hb dX12_hardest_32 rfl hl (by decide) rfl (fun ls hl => ?_)
                                  have cut_33 : ∀ (fuel : Nat), ∀ (i : Nat) (f : Nat → Int32) (H : Heap) (locs : List Loc) (ls : Array Slot), (i ≤ n) → (∀ j, j < 102 → f j = s_rd r ia (0 : Int32) i j) → zP E (g1 G14 94 f) H → va_S (zA E s_.heap.size) s_.heap H locs → lv_has ls 5 [(0, .ref (E.1 92)), (1, .int (nI ia)), (2, .int (0 : Int32)), (3, .int (nI i))] → n - i < fuel → W p_ l e_ ({ frames := 6, cells := 0, slots := 0, locals := 142 } : Room) s_ m_ a_ b_ me_ c_ H locs 0 0 Q_ (F0 m_ 33 ls []) := by
                                    intro fuel
                                    induction fuel with
                                    | zero =>
                                      intro i  f  H locs ls hin hf hP hS hl hfu
                                      exact absurd hfu (Nat.not_lt_zero _)
                                    | succ fuel ih_33 =>
                                      intro i  f  H locs ls hin hf hP hS hl hfu_33
                                      refine lv_iload_n hx hb dX12_hardest_33 rfl (lv_at hl 3 rfl) ?_
                                      refine lv_aload_n hx hb dX12_hardest_34 rfl (lv_at hl 0 rfl) ?_
                                      refine z_get C0 hP (C := RX12) (T := TX12) (N := 21) (ci := 10) (index := 9) (k := 92) (ref := "WetSuitPedalsShoesModel") (zk_lt (rfl : zk 92 = 10) (by decide)) (zd_10 E (rfl : zk 92 = 10) _) rfl (zmi inU_12) 0 (by decide) (zm flRX12_9) rfl (v := .ref (E.1 93)) (rfl) dX12_hardest_35 ?_
                                      refine lv_iconst (v := (0 : Int32)) hx hb dX12_hardest_38 (by decide) ?_
                                      refine z_iald C0 hP (k := 93) (i := 0) (v := (nI n)) (rfl : zk 93 = 11) (Nat.lt_of_lt_of_eq (show 0 < 102 by decide) (rfl : zl 93 = 102).symm) rfl dX12_hardest_39 ((congrFun ((g1_n (by decide)).trans ((hF14 _ (by decide)).trans ((hF7 _ (by decide)).trans ((g1_n (by decide)).trans ((hF6 _ (by decide)).trans ((hF5 _ (by decide)).trans ((g1_n (by decide)).trans ((hF4 _ (by decide)).trans ((hF3 _ (by decide)).trans ((g1_n (by decide)).trans ((hF2 _ (by decide)).trans (hM)))))))))))) _).trans (hrn)) ?_
                                      refine z_N_ge hx hb (a := i) (b := n) (tgt := 71) dX12_hardest_40 rfl rfl (by omega) (by omega) (by decide) (fun c_40_3 => ?_) (fun c_40_3 => ?_)
                                      · skip
                                        refine lv_aload_n hx hb dX12_hardest_71 rfl (lv_at hl 0 rfl) ?_
                                        refine lv_aload_n hx hb dX12_hardest_72 rfl (lv_at hl 0 rfl) ?_
                                        refine z_get C0 hP (C := RX12) (T := TX12) (N := 21) (ci := 10) (index := 13) (k := 92) (ref := "WetSuitPedalsShoesModel") (zk_lt (rfl : zk 92 = 10) (by decide)) (zd_10 E (rfl : zk 92 = 10) _) rfl (zmi inU_12) 1 (by decide) (zm flRX12_13) rfl (v := .ref (E.1 94)) (rfl) dX12_hardest_73 ?_
                                        refine lv_iload_n hx hb dX12_hardest_76 rfl (lv_at hl 1 rfl) ?_
                                        refine z_Vi C0 hP hD hA hS (As := [.ref (E.1 94), .int (nI ia)]) (rest := []) (k := 92) (c_X12_finishOf l E _ 94 ia n z_lit_Arr102_94 (by omega) ((congrFun (g1_s _ _ _) _).trans ((hf 0 (by decide)).trans ((s_rd_o _ 0 (by omega)).trans hrn))) (by omega) (by omega)) (cwV 2 hts (zgV zbw mlRX12_156 imX12_finishOf seX12_finishOf iniRX12 coX12_finishOf) rfl rfl rfl (by decide +kernel) ⟨Nat.le_of_ble_eq_true rfl, Nat.le_of_ble_eq_true rfl⟩) (zk_lt (rfl : zk 92 = 10) (by decide)) (zd_10 E (rfl : zk 92 = 10) _) rfl rfl rfl hl.1 rfl (Nat.le_of_ble_eq_true rfl) dX12_hardest_77 ⟨Nat.zero_le _, Nat.zero_le _⟩ (fun r15 G15 H locs hw15 hP hS => ?_)
                                        obtain ⟨hr15, hF15, hrow15⟩ := hw15
                                        rw [show (g1 G14 94 f) 94 = f from g1_s _ _ _] at hr15 hrow15
                                        refine lv_istore_n (lv' := [(3, .int r15), (0, .ref (E.1 92)), (1, .int (nI ia)), (2, .int (0 : Int32))]) hx hb dX12_hardest_80 rfl hl (by decide) rfl (fun ls hl => ?_)
                                        refine lv_aload_n hx hb dX12_hardest_81 rfl (lv_at hl 1 rfl) ?_
                                        refine z_get C0 hP (C := RX12) (T := TX12) (N := 21) (ci := 10) (index := 9) (k := 92) (ref := "WetSuitPedalsShoesModel") (zk_lt (rfl : zk 92 = 10) (by decide)) (zd_10 E (rfl : zk 92 = 10) _) rfl (zmi inU_12) 0 (by decide) (zm flRX12_9) rfl (v := .ref (E.1 93)) (rfl) dX12_hardest_82 ?_
                                        refine lv_iconst (v := (0 : Int32)) hx hb dX12_hardest_85 (by decide) ?_
                                        refine z_iald C0 hP (k := 93) (i := 0) (v := (nI n)) (rfl : zk 93 = 11) (Nat.lt_of_lt_of_eq (show 0 < 102 by decide) (rfl : zl 93 = 102).symm) rfl dX12_hardest_86 ((congrFun ((hF15 _ (by decide)).trans ((g1_n (by decide)).trans ((hF14 _ (by decide)).trans ((hF7 _ (by decide)).trans ((g1_n (by decide)).trans ((hF6 _ (by decide)).trans ((hF5 _ (by decide)).trans ((g1_n (by decide)).trans ((hF4 _ (by decide)).trans ((hF3 _ (by decide)).trans ((g1_n (by decide)).trans ((hF2 _ (by decide)).trans (hM))))))))))))) _).trans (hrn)) ?_
                                        refine z_0_ne hx hb (a := n) (tgt := 103) dX12_hardest_87 rfl (by omega) (by decide) (fun c_87_3 => ?_) (fun c_87_3 => ?_)
                                        · skip
                                          refine lv_aload_n hx hb dX12_hardest_103 rfl (lv_at hl 1 rfl) ?_
                                          refine z_get C0 hP (C := RX12) (T := TX12) (N := 21) (ci := 10) (index := 34) (k := 92) (ref := "WetSuitPedalsShoesModel") (zk_lt (rfl : zk 92 = 10) (by decide)) (zd_10 E (rfl : zk 92 = 10) _) rfl (zmi inU_12) 11 (by decide) (zm flRX12_34) rfl (v := .ref (E.1 101)) (rfl) dX12_hardest_104 ?_
                                          refine lv_aload_n hx hb dX12_hardest_107 rfl (lv_at hl 1 rfl) ?_
                                          refine z_get C0 hP (C := RX12) (T := TX12) (N := 21) (ci := 10) (index := 9) (k := 92) (ref := "WetSuitPedalsShoesModel") (zk_lt (rfl : zk 92 = 10) (by decide)) (zd_10 E (rfl : zk 92 = 10) _) rfl (zmi inU_12) 0 (by decide) (zm flRX12_9) rfl (v := .ref (E.1 93)) (rfl) dX12_hardest_108 ?_
                                          refine lv_iconst (v := (0 : Int32)) hx hb dX12_hardest_111 (by decide) ?_
                                          refine z_iald C0 hP (k := 93) (i := 0) (v := (nI n)) (rfl : zk 93 = 11) (Nat.lt_of_lt_of_eq (show 0 < 102 by decide) (rfl : zl 93 = 102).symm) rfl dX12_hardest_112 ((congrFun ((hF15 _ (by decide)).trans ((g1_n (by decide)).trans ((hF14 _ (by decide)).trans ((hF7 _ (by decide)).trans ((g1_n (by decide)).trans ((hF6 _ (by decide)).trans ((hF5 _ (by decide)).trans ((g1_n (by decide)).trans ((hF4 _ (by decide)).trans ((hF3 _ (by decide)).trans ((g1_n (by decide)).trans ((hF2 _ (by decide)).trans (hM))))))))))))) _).trans (hrn)) ?_
                                          refine lv_iconst (v := (1 : Int32)) hx hb dX12_hardest_113 (by decide) ?_
                                          refine z_isub hx hb (a := n) (b := 1) (n := n - 1) dX12_hardest_114 rfl rfl (by omega) (by omega) ?_
                                          refine z_iald C0 hP (k := 101) (i := n - 1) (v := ((m_run f ia (-1) (n - 1 + 1)).1)) (rfl : zk 101 = 11) (Nat.lt_of_lt_of_eq (show n - 1 < 10 by omega) (rfl : zl 101 = 10).symm) rfl dX12_hardest_115 ((hrow15 (n - 1) (by omega)).2.1) ?_
                                          refine lv_istore (lv' := [(4, .int ((m_run f ia (-1) (n - 1 + 1)).1)), (3, .int r15), (0, .ref (E.1 92)), (1, .int (nI ia)), (2, .int (0 : Int32))]) hx hb dX12_hardest_116 hl (by decide) rfl (fun ls hl => ?_)
                                          refine lv_iload hx hb dX12_hardest_118 (lv_at hl 0 rfl) ?_
                                          refine lv_if_le (tgt := 125) hx hb dX12_hardest_120 (by decide) (fun c_120_3 => ?_) (fun c_120_3 => ?_)
                                          · skip
                                            have d_120_3 := Int32.not_lt.mpr c_120_3
                                            have e_120_3 := q_hd_m (v := (0 : Int32)) c_87_3 hin c_40_3 (by omega) (by omega) hf
                                            rw [← e_120_3] at d_120_3
                                            refine lv_iinc (v := (-1 : Int32)) (lv' := [(2, .int (-1 : Int32)), (4, .int ((m_run f ia (-1) (n - 1 + 1)).1)), (3, .int r15), (0, .ref (E.1 92)), (1, .int (nI ia))]) hx hb dX12_hardest_125 hl (k := 4) rfl (by decide) (by decide) rfl (fun ls hl => ?_)
                                            refine lv_goto (tgt := 16) hx hb dX12_hardest_128 (by decide) ?_
                                            refine lv_iload_n hx hb dX12_hardest_16 rfl (lv_at hl 0 rfl) ?_
                                            refine lv_if_lt (tgt := 131) hx hb dX12_hardest_17 (by decide) (fun _ => ?_) (fun h_ => absurd (by decide) h_)
                                            refine lv_bipush (v := (-9 : Int32)) hx hb dX12_hardest_131 (by decide) ?_
                                            subst hQ_
                                            exact z_iret C0 hP hS (v := (-9 : Int32)) (by exact zQm_of (k := 0) (by simp [A_hardest, hz_ia, hy_ia, d_120, d_120_1, d_120_2, d_120_3]) (fun k hk => (hF15 k (by omega)).trans ((g1_n (by omega)).trans ((hF14 k (by omega)).trans ((hF7 k (by omega)).trans ((g1_n (by omega)).trans ((hF6 k (by omega)).trans ((hF5 k (by omega)).trans ((g1_n (by omega)).trans ((hF4 k (by omega)).trans ((hF3 k (by omega)).trans ((g1_n (by omega)).trans (hF2 k (by omega))))))))))))) ((hF15 _ (by decide)).trans ((g1_n (by decide)).trans ((hF14 _ (by decide)).trans ((hF7 _ (by decide)).trans ((g1_n (by decide)).trans ((hF6 _ (by decide)).trans ((hF5 _ (by decide)).trans ((g1_n (by decide)).trans ((hF4 _ (by decide)).trans ((hF3 _ (by decide)).trans ((g1_n (by decide)).trans (hF2 _ (by decide)))))))))))))) dX12_hardest_133
                                          · skip
                                            have d_120_3 := Int32.not_le.mp c_120_3
                                            have e_120_3 := q_hd_m (v := (0 : Int32)) c_87_3 hin c_40_3 (by omega) (by omega) hf
                                            rw [← e_120_3] at d_120_3
                                            refine lv_iload_n hx hb dX12_hardest_123 rfl (lv_at hl 4 rfl) ?_
                                            subst hQ_
                                            exact z_iret C0 hP hS (v := (0 : Int32)) (by exact zQm_of (k := 0) (by simp [A_hardest, hz_ia, hy_ia, d_120, d_120_1, d_120_2, d_120_3]) (fun k hk => (hF15 k (by omega)).trans ((g1_n (by omega)).trans ((hF14 k (by omega)).trans ((hF7 k (by omega)).trans ((g1_n (by omega)).trans ((hF6 k (by omega)).trans ((hF5 k (by omega)).trans ((g1_n (by omega)).trans ((hF4 k (by omega)).trans ((hF3 k (by omega)).trans ((g1_n (by omega)).trans (hF2 k (by omega))))))))))))) ((hF15 _ (by decide)).trans ((g1_n (by decide)).trans ((hF14 _ (by decide)).trans ((hF7 _ (by decide)).trans ((g1_n (by decide)).trans ((hF6 _ (by decide)).trans ((hF5 _ (by decide)).trans ((g1_n (by decide)).trans ((hF4 _ (by decide)).trans ((hF3 _ (by decide)).trans ((g1_n (by decide)).trans (hF2 _ (by decide)))))))))))))) dX12_hardest_124
                                        · skip
                                          refine lv_aload_n hx hb dX12_hardest_90 rfl (lv_at hl 1 rfl) ?_
                                          refine z_get C0 hP (C := RX12) (T := TX12) (N := 21) (ci := 10) (index := 9) (k := 92) (ref := "WetSuitPedalsShoesModel") (zk_lt (rfl : zk 92 = 10) (by decide)) (zd_10 E (rfl : zk 92 = 10) _) rfl (zmi inU_12) 0 (by decide) (zm flRX12_9) rfl (v := .ref (E.1 93)) (rfl) dX12_hardest_91 ?_
                                          refine lv_iload_n hx hb dX12_hardest_94 rfl (lv_at hl 2 rfl) ?_
                                          refine lv_iconst (v := (3 : Int32)) hx hb dX12_hardest_95 (by decide) ?_
                                          refine z_Si C0 hP hD hA hS (As := [.int (nI ia), .int (3 : Int32)]) (rest := [.ref (E.1 93)]) (c_X12_athleteAt l E _ ia 3) (va_cwS 2 hts (zgS zbw mlRX12_70 stX12_athleteAt iniRX12 coX12_athleteAt) rfl rfl rfl (by decide +kernel) ⟨Nat.le_of_ble_eq_true rfl, Nat.le_of_ble_eq_true rfl⟩) rfl hl.1 rfl (Nat.le_of_ble_eq_true rfl) dX12_hardest_96 ⟨Nat.zero_le _, Nat.zero_le _⟩ (fun r16 G16 H locs hw16 hP hS => ?_)
                                          obtain ⟨hr16, rfl⟩ := hw16
                                          subst hr16
                                          refine z_eqi (y := (nI (35 + 4 * ia))) (congrArg nI (by omega)) ?_
                                          refine z_iald C0 hP (k := 93) (i := 35 + 4 * ia) (v := (r (35 + 4 * ia))) (rfl : zk 93 = 11) (Nat.lt_of_lt_of_eq (show 35 + 4 * ia < 102 by omega) (rfl : zl 93 = 102).symm) rfl dX12_hardest_99 (congrFun ((hF15 _ (by decide)).trans ((g1_n (by decide)).trans ((hF14 _ (by decide)).trans ((hF7 _ (by decide)).trans ((g1_n (by decide)).trans ((hF6 _ (by decide)).trans ((hF5 _ (by decide)).trans ((g1_n (by decide)).trans ((hF4 _ (by decide)).trans ((hF3 _ (by decide)).trans ((g1_n (by decide)).trans ((hF2 _ (by decide)).trans (hM))))))))))))) _) ?_
                                          refine lv_goto (tgt := 116) hx hb dX12_hardest_100 (by decide) ?_
                                          refine lv_istore (lv' := [(4, .int (r (35 + 4 * ia))), (3, .int r15), (0, .ref (E.1 92)), (1, .int (nI ia)), (2, .int (0 : Int32))]) hx hb dX12_hardest_116 hl (by decide) rfl (fun ls hl => ?_)
                                          refine lv_iload hx hb dX12_hardest_118 (lv_at hl 0 rfl) ?_
                                          refine lv_if_le (tgt := 125) hx hb dX12_hardest_120 (by decide) (fun c_120_3 => ?_) (fun c_120_3 => ?_)
                                          · skip
                                            have d_120_3 := Int32.not_lt.mpr c_120_3
                                            have e_120_3 := q_hd_0 (r := r) (a := ia) (v := (0 : Int32)) c_87_3
                                            rw [← e_120_3] at d_120_3
                                            refine lv_iinc (v := (-1 : Int32)) (lv' := [(2, .int (-1 : Int32)), (4, .int (r (35 + 4 * ia))), (3, .int r15), (0, .ref (E.1 92)), (1, .int (nI ia))]) hx hb dX12_hardest_125 hl (k := 4) rfl (by decide) (by decide) rfl (fun ls hl => ?_)
                                            refine lv_goto (tgt := 16) hx hb dX12_hardest_128 (by decide) ?_
                                            refine lv_iload_n hx hb dX12_hardest_16 rfl (lv_at hl 0 rfl) ?_
                                            refine lv_if_lt (tgt := 131) hx hb dX12_hardest_17 (by decide) (fun _ => ?_) (fun h_ => absurd (by decide) h_)
                                            refine lv_bipush (v := (-9 : Int32)) hx hb dX12_hardest_131 (by decide) ?_
                                            subst hQ_
                                            exact z_iret C0 hP hS (v := (-9 : Int32)) (by exact zQm_of (k := 0) (by simp [A_hardest, hz_ia, hy_ia, d_120, d_120_1, d_120_2, d_120_3]) (fun k hk => (hF15 k (by omega)).trans ((g1_n (by omega)).trans ((hF14 k (by omega)).trans ((hF7 k (by omega)).trans ((g1_n (by omega)).trans ((hF6 k (by omega)).trans ((hF5 k (by omega)).trans ((g1_n (by omega)).trans ((hF4 k (by omega)).trans ((hF3 k (by omega)).trans ((g1_n (by omega)).trans (hF2 k (by omega))))))))))))) ((hF15 _ (by decide)).trans ((g1_n (by decide)).trans ((hF14 _ (by decide)).trans ((hF7 _ (by decide)).trans ((g1_n (by decide)).trans ((hF6 _ (by decide)).trans ((hF5 _ (by decide)).trans ((g1_n (by decide)).trans ((hF4 _ (by decide)).trans ((hF3 _ (by decide)).trans ((g1_n (by decide)).trans (hF2 _ (by decide)))))))))))))) dX12_hardest_133
                                          · skip
                                            have d_120_3 := Int32.not_le.mp c_120_3
                                            have e_120_3 := q_hd_0 (r := r) (a := ia) (v := (0 : Int32)) c_87_3
                                            rw [← e_120_3] at d_120_3
                                            refine lv_iload_n hx hb dX12_hardest_123 rfl (lv_at hl 4 rfl) ?_
                                            subst hQ_
                                            exact z_iret C0 hP hS (v := (0 : Int32)) (by exact zQm_of (k := 0) (by simp [A_hardest, hz_ia, hy_ia, d_120, d_120_1, d_120_2, d_120_3]) (fun k hk => (hF15 k (by omega)).trans ((g1_n (by omega)).trans ((hF14 k (by omega)).trans ((hF7 k (by omega)).trans ((g1_n (by omega)).trans ((hF6 k (by omega)).trans ((hF5 k (by omega)).trans ((g1_n (by omega)).trans ((hF4 k (by omega)).trans ((hF3 k (by omega)).trans ((g1_n (by omega)).trans (hF2 k (by omega))))))))))))) ((hF15 _ (by decide)).trans ((g1_n (by decide)).trans ((hF14 _ (by decide)).trans ((hF7 _ (by decide)).trans ((g1_n (by decide)).trans ((hF6 _ (by decide)).trans ((hF5 _ (by decide)).trans ((g1_n (by decide)).trans ((hF4 _ (by decide)).trans ((hF3 _ (by decide)).trans ((g1_n (by decide)).trans (hF2 _ (by decide)))))))))))))) dX12_hardest_124
                                      · skip
                                        refine lv_aload_n hx hb dX12_hardest_43 rfl (lv_at hl 0 rfl) ?_
                                        refine z_get C0 hP (C := RX12) (T := TX12) (N := 21) (ci := 10) (index := 9) (k := 92) (ref := "WetSuitPedalsShoesModel") (zk_lt (rfl : zk 92 = 10) (by decide)) (zd_10 E (rfl : zk 92 = 10) _) rfl (zmi inU_12) 0 (by decide) (zm flRX12_9) rfl (v := .ref (E.1 93)) (rfl) dX12_hardest_44 ?_
                                        refine lv_iload_n hx hb dX12_hardest_47 rfl (lv_at hl 3 rfl) ?_
                                        refine z_Si C0 hP hD hA hS (As := [.ref (E.1 93), .int (nI i)]) (rest := []) (c_X12_isRide l E _ 93 i z_lit_Arr102_93 (by omega)) (va_cwS 2 hts (zgS zbw mlRX12_73 stX12_isRide iniRX12 coX12_isRide) rfl rfl rfl (by decide +kernel) ⟨Nat.le_of_ble_eq_true rfl, Nat.le_of_ble_eq_true rfl⟩) rfl hl.1 rfl (Nat.le_of_ble_eq_true rfl) dX12_hardest_48 ⟨Nat.zero_le _, Nat.zero_le _⟩ (fun r17 G17 H locs hw17 hP hS => ?_)
                                        obtain ⟨hr17, rfl⟩ := hw17
                                        have hr17 : s_isRide (r (2 + 3 * i)) = _ := (congrArg (fun z_ : Nat → Int32 => s_isRide (z_ (2 + 3 * i))) (show (g1 G14 94 f) 93 = r from (g1_n (by decide)).trans ((hF14 _ (by decide)).trans ((hF7 _ (by decide)).trans ((g1_n (by decide)).trans ((hF6 _ (by decide)).trans ((hF5 _ (by decide)).trans ((g1_n (by decide)).trans ((hF4 _ (by decide)).trans ((hF3 _ (by decide)).trans ((g1_n (by decide)).trans ((hF2 _ (by decide)).trans (hM))))))))))))).symm.trans hr17
                                        subst hr17
                                        refine lv_if_eq (tgt := 65) hx hb dX12_hardest_51 (by decide) (fun c_51 => ?_) (fun c_51 => ?_)
                                        · skip
                                          refine lv_iinc (v := (nI (i + 1))) (lv' := [(3, .int (nI (i + 1))), (0, .ref (E.1 92)), (1, .int (nI ia)), (2, .int (0 : Int32))]) hx hb dX12_hardest_65 hl (k := 3) rfl (z_inc (by decide)) (by decide) rfl (fun ls hl => ?_)
                                          refine lv_goto (tgt := 33) hx hb dX12_hardest_68 (by decide) ?_
                                          exact ih_33 (i + 1) f _ _ _ (by first | assumption | omega) (by intro j hj; rw [s_rd_n (fun q => by rw [c_51] at q; exact absurd q (by decide))]; exact hf j hj) hP hS (lv_sub hl [1, 2, 3, 0] rfl) (by omega)
                                        · skip
                                          refine lv_aload_n hx hb dX12_hardest_54 rfl (lv_at hl 0 rfl) ?_
                                          refine z_get C0 hP (C := RX12) (T := TX12) (N := 21) (ci := 10) (index := 13) (k := 92) (ref := "WetSuitPedalsShoesModel") (zk_lt (rfl : zk 92 = 10) (by decide)) (zd_10 E (rfl : zk 92 = 10) _) rfl (zmi inU_12) 1 (by decide) (zm flRX12_13) rfl (v := .ref (E.1 94)) (rfl) dX12_hardest_55 ?_
                                          refine lv_iload_n hx hb dX12_hardest_58 rfl (lv_at hl 1 rfl) ?_
                                          refine lv_iload_n hx hb dX12_hardest_59 rfl (lv_at hl 3 rfl) ?_
                                          refine z_Si C0 hP hD hA hS (As := [.int (nI ia), .int (nI i)]) (rest := [.ref (E.1 94)]) (c_X12_tried l E _ ia i) (va_cwS 2 hts (zgS zbw mlRX12_91 stX12_tried iniRX12 coX12_tried) rfl rfl rfl (by decide +kernel) ⟨Nat.le_of_ble_eq_true rfl, Nat.le_of_ble_eq_true rfl⟩) rfl hl.1 rfl (Nat.le_of_ble_eq_true rfl) dX12_hardest_60 ⟨Nat.zero_le _, Nat.zero_le _⟩ (fun r18 G18 H locs hw18 hP hS => ?_)
                                          obtain ⟨hr18, rfl⟩ := hw18
                                          subst hr18
                                          refine z_eqi (y := (nI (52 + 10 * ia + i))) (congrArg nI (by omega)) ?_
                                          refine lv_iload_n hx hb dX12_hardest_63 rfl (lv_at hl 2 rfl) ?_
                                          refine z_iast C0 hP hD hS (k := 94) (i := 52 + 10 * ia + i) (v := (0 : Int32)) (F := f) (g1_s _ _ _) (rfl : zk 94 = 11) (Nat.lt_of_lt_of_eq (show 52 + 10 * ia + i < 102 by omega) (rfl : zl 94 = 102).symm) rfl dX12_hardest_64 (fun H locs hP hS => ?_)
                                          have hP := zP_eq (g1_t _ _ _ _ : _ = (g1 G14 94 (upd f (52 + 10 * ia + i) (0 : Int32)))) hP
                                          refine lv_iinc (v := (nI (i + 1))) (lv' := [(3, .int (nI (i + 1))), (0, .ref (E.1 92)), (1, .int (nI ia)), (2, .int (0 : Int32))]) hx hb dX12_hardest_65 hl (k := 3) rfl (z_inc (by decide)) (by decide) rfl (fun ls hl => ?_)
                                          refine lv_goto (tgt := 33) hx hb dX12_hardest_68 (by decide) ?_
                                          exact ih_33 (i + 1) (upd f (52 + 10 * ia + i) (0 : Int32)) _ _ _ (by first | assumption | omega) (by intro j hj; rw [s_rd_y (s_ride_ne c_51)]; exact upd_c hf j hj) hP hS (lv_sub hl [1, 2, 3, 0] rfl) (by omega)
                                  exact cut_33 (_ + 1) 0 (G14 94) _ _ _ (by first | assumption | omega) (by exact (fun j hj => (hcp14 j hj).trans (congrFun ((hF7 _ (by decide)).trans ((g1_n (by decide)).trans ((hF6 _ (by decide)).trans ((hF5 _ (by decide)).trans ((g1_n (by decide)).trans ((hF4 _ (by decide)).trans ((hF3 _ (by decide)).trans ((g1_n (by decide)).trans ((hF2 _ (by decide)).trans (hM)))))))))) j))) (zP_eq ((g1_e G14 94).symm) hP) hS (lv_sub hl [3, 4, 1, 0] rfl) (Nat.lt_succ_self _)
                                · skip
                                  have d_120_2 := Int32.not_le.mp c_120_2
                                  have e_120_2 := q_hd_0 (r := r) (a := ia) (v := (1 : Int32)) c_87_2
                                  rw [← e_120_2] at d_120_2
                                  refine lv_iload_n hx hb dX12_hardest_123 rfl (lv_at hl 4 rfl) ?_
                                  subst hQ_
                                  exact z_iret C0 hP hS (v := (1 : Int32)) (by exact zQm_of (k := 0) (by simp [A_hardest, hz_ia, hy_ia, d_120, d_120_1, d_120_2]) (fun k hk => (hF7 k (by omega)).trans ((g1_n (by omega)).trans ((hF6 k (by omega)).trans ((hF5 k (by omega)).trans ((g1_n (by omega)).trans ((hF4 k (by omega)).trans ((hF3 k (by omega)).trans ((g1_n (by omega)).trans (hF2 k (by omega)))))))))) ((hF7 _ (by decide)).trans ((g1_n (by decide)).trans ((hF6 _ (by decide)).trans ((hF5 _ (by decide)).trans ((g1_n (by decide)).trans ((hF4 _ (by decide)).trans ((hF3 _ (by decide)).trans ((g1_n (by decide)).trans (hF2 _ (by decide))))))))))) dX12_hardest_124
                            · skip
                              refine lv_aload_n hx hb dX12_hardest_43 rfl (lv_at hl 0 rfl) ?_
                              refine z_get C0 hP (C := RX12) (T := TX12) (N := 21) (ci := 10) (index := 9) (k := 92) (ref := "WetSuitPedalsShoesModel") (zk_lt (rfl : zk 92 = 10) (by decide)) (zd_10 E (rfl : zk 92 = 10) _) rfl (zmi inU_12) 0 (by decide) (zm flRX12_9) rfl (v := .ref (E.1 93)) (rfl) dX12_hardest_44 ?_
                              refine lv_iload_n hx hb dX12_hardest_47 rfl (lv_at hl 3 rfl) ?_
                              refine z_Si C0 hP hD hA hS (As := [.ref (E.1 93), .int (nI i)]) (rest := []) (c_X12_isRide l E _ 93 i z_lit_Arr102_93 (by omega)) (va_cwS 2 hts (zgS zbw mlRX12_73 stX12_isRide iniRX12 coX12_isRide) rfl rfl rfl (by decide +kernel) ⟨Nat.le_of_ble_eq_true rfl, Nat.le_of_ble_eq_true rfl⟩) rfl hl.1 rfl (Nat.le_of_ble_eq_true rfl) dX12_hardest_48 ⟨Nat.zero_le _, Nat.zero_le _⟩ (fun r19 G19 H locs hw19 hP hS => ?_)
                              obtain ⟨hr19, rfl⟩ := hw19
                              have hr19 : s_isRide (r (2 + 3 * i)) = _ := (congrArg (fun z_ : Nat → Int32 => s_isRide (z_ (2 + 3 * i))) (show (g1 G6 94 f) 93 = r from (g1_n (by decide)).trans ((hF6 _ (by decide)).trans ((hF5 _ (by decide)).trans ((g1_n (by decide)).trans ((hF4 _ (by decide)).trans ((hF3 _ (by decide)).trans ((g1_n (by decide)).trans ((hF2 _ (by decide)).trans (hM)))))))))).symm.trans hr19
                              subst hr19
                              refine lv_if_eq (tgt := 65) hx hb dX12_hardest_51 (by decide) (fun c_51 => ?_) (fun c_51 => ?_)
                              · skip
                                refine lv_iinc (v := (nI (i + 1))) (lv' := [(3, .int (nI (i + 1))), (0, .ref (E.1 92)), (1, .int (nI ia)), (2, .int (1 : Int32))]) hx hb dX12_hardest_65 hl (k := 3) rfl (z_inc (by decide)) (by decide) rfl (fun ls hl => ?_)
                                refine lv_goto (tgt := 33) hx hb dX12_hardest_68 (by decide) ?_
                                exact ih_33 (i + 1) f _ _ _ (by first | assumption | omega) (by intro j hj; rw [s_rd_n (fun q => by rw [c_51] at q; exact absurd q (by decide))]; exact hf j hj) hP hS (lv_sub hl [1, 2, 3, 0] rfl) (by omega)
                              · skip
                                refine lv_aload_n hx hb dX12_hardest_54 rfl (lv_at hl 0 rfl) ?_
                                refine z_get C0 hP (C := RX12) (T := TX12) (N := 21) (ci := 10) (index := 13) (k := 92) (ref := "WetSuitPedalsShoesModel") (zk_lt (rfl : zk 92 = 10) (by decide)) (zd_10 E (rfl : zk 92 = 10) _) rfl (zmi inU_12) 1 (by decide) (zm flRX12_13) rfl (v := .ref (E.1 94)) (rfl) dX12_hardest_55 ?_
                                refine lv_iload_n hx hb dX12_hardest_58 rfl (lv_at hl 1 rfl) ?_
                                refine lv_iload_n hx hb dX12_hardest_59 rfl (lv_at hl 3 rfl) ?_
                                refine z_Si C0 hP hD hA hS (As := [.int (nI ia), .int (nI i)]) (rest := [.ref (E.1 94)]) (c_X12_tried l E _ ia i) (va_cwS 2 hts (zgS zbw mlRX12_91 stX12_tried iniRX12 coX12_tried) rfl rfl rfl (by decide +kernel) ⟨Nat.le_of_ble_eq_true rfl, Nat.le_of_ble_eq_true rfl⟩) rfl hl.1 rfl (Nat.le_of_ble_eq_true rfl) dX12_hardest_60 ⟨Nat.zero_le _, Nat.zero_le _⟩ (fun r20 G20 H locs hw20 hP hS => ?_)
                                obtain ⟨hr20, rfl⟩ := hw20
                                subst hr20
                                refine z_eqi (y := (nI (52 + 10 * ia + i))) (congrArg nI (by omega)) ?_
                                refine lv_iload_n hx hb dX12_hardest_63 rfl (lv_at hl 2 rfl) ?_
                                refine z_iast C0 hP hD hS (k := 94) (i := 52 + 10 * ia + i) (v := (1 : Int32)) (F := f) (g1_s _ _ _) (rfl : zk 94 = 11) (Nat.lt_of_lt_of_eq (show 52 + 10 * ia + i < 102 by omega) (rfl : zl 94 = 102).symm) rfl dX12_hardest_64 (fun H locs hP hS => ?_)
                                have hP := zP_eq (g1_t _ _ _ _ : _ = (g1 G6 94 (upd f (52 + 10 * ia + i) (1 : Int32)))) hP
                                refine lv_iinc (v := (nI (i + 1))) (lv' := [(3, .int (nI (i + 1))), (0, .ref (E.1 92)), (1, .int (nI ia)), (2, .int (1 : Int32))]) hx hb dX12_hardest_65 hl (k := 3) rfl (z_inc (by decide)) (by decide) rfl (fun ls hl => ?_)
                                refine lv_goto (tgt := 33) hx hb dX12_hardest_68 (by decide) ?_
                                exact ih_33 (i + 1) (upd f (52 + 10 * ia + i) (1 : Int32)) _ _ _ (by first | assumption | omega) (by intro j hj; rw [s_rd_y (s_ride_ne c_51)]; exact upd_c hf j hj) hP hS (lv_sub hl [1, 2, 3, 0] rfl) (by omega)
                        exact cut_33 (_ + 1) 0 (G6 94) _ _ _ (by first | assumption | omega) (by exact (fun j hj => (hcp6 j hj).trans (congrFun ((hF5 _ (by decide)).trans ((g1_n (by decide)).trans ((hF4 _ (by decide)).trans ((hF3 _ (by decide)).trans ((g1_n (by decide)).trans ((hF2 _ (by decide)).trans (hM))))))) j))) (zP_eq ((g1_e G6 94).symm) hP) hS (lv_sub hl [3, 4, 1, 0] rfl) (Nat.lt_succ_self _)
                      · skip
                        have d_120_1 := Int32.not_le.mp c_120_1
                        have e_120_1 := q_hd_m (v := (2 : Int32)) c_87_1 hin c_40_1 (by omega) (by omega) hf
                        rw [← e_120_1] at d_120_1
                        refine lv_iload_n hx hb dX12_hardest_123 rfl (lv_at hl 4 rfl) ?_
                        subst hQ_
                        exact z_iret C0 hP hS (v := (2 : Int32)) (by exact zQm_of (k := 0) (by simp [A_hardest, hz_ia, hy_ia, d_120, d_120_1]) (fun k hk => (hF5 k (by omega)).trans ((g1_n (by omega)).trans ((hF4 k (by omega)).trans ((hF3 k (by omega)).trans ((g1_n (by omega)).trans (hF2 k (by omega))))))) ((hF5 _ (by decide)).trans ((g1_n (by decide)).trans ((hF4 _ (by decide)).trans ((hF3 _ (by decide)).trans ((g1_n (by decide)).trans (hF2 _ (by decide)))))))) dX12_hardest_124
                    · skip
                      refine lv_aload_n hx hb dX12_hardest_90 rfl (lv_at hl 1 rfl) ?_
                      refine z_get C0 hP (C := RX12) (T := TX12) (N := 21) (ci := 10) (index := 9) (k := 92) (ref := "WetSuitPedalsShoesModel") (zk_lt (rfl : zk 92 = 10) (by decide)) (zd_10 E (rfl : zk 92 = 10) _) rfl (zmi inU_12) 0 (by decide) (zm flRX12_9) rfl (v := .ref (E.1 93)) (rfl) dX12_hardest_91 ?_
                      refine lv_iload_n hx hb dX12_hardest_94 rfl (lv_at hl 2 rfl) ?_
                      refine lv_iconst (v := (3 : Int32)) hx hb dX12_hardest_95 (by decide) ?_
                      refine z_Si C0 hP hD hA hS (As := [.int (nI ia), .int (3 : Int32)]) (rest := [.ref (E.1 93)]) (c_X12_athleteAt l E _ ia 3) (va_cwS 2 hts (zgS zbw mlRX12_70 stX12_athleteAt iniRX12 coX12_athleteAt) rfl rfl rfl (by decide +kernel) ⟨Nat.le_of_ble_eq_true rfl, Nat.le_of_ble_eq_true rfl⟩) rfl hl.1 rfl (Nat.le_of_ble_eq_true rfl) dX12_hardest_96 ⟨Nat.zero_le _, Nat.zero_le _⟩ (fun r21 G21 H locs hw21 hP hS => ?_)
                      obtain ⟨hr21, rfl⟩ := hw21
                      subst hr21
                      refine z_eqi (y := (nI (35 + 4 * ia))) (congrArg nI (by omega)) ?_
                      refine z_iald C0 hP (k := 93) (i := 35 + 4 * ia) (v := (r (35 + 4 * ia))) (rfl : zk 93 = 11) (Nat.lt_of_lt_of_eq (show 35 + 4 * ia < 102 by omega) (rfl : zl 93 = 102).symm) rfl dX12_hardest_99 (congrFun ((hF5 _ (by decide)).trans ((g1_n (by decide)).trans ((hF4 _ (by decide)).trans ((hF3 _ (by decide)).trans ((g1_n (by decide)).trans ((hF2 _ (by decide)).trans (hM))))))) _) ?_
                      refine lv_goto (tgt := 116) hx hb dX12_hardest_100 (by decide) ?_
                      refine lv_istore (lv' := [(4, .int (r (35 + 4 * ia))), (3, .int r5), (0, .ref (E.1 92)), (1, .int (nI ia)), (2, .int (2 : Int32))]) hx hb dX12_hardest_116 hl (by decide) rfl (fun ls hl => ?_)
                      refine lv_iload hx hb dX12_hardest_118 (lv_at hl 0 rfl) ?_
                      refine lv_if_le (tgt := 125) hx hb dX12_hardest_120 (by decide) (fun c_120_1 => ?_) (fun c_120_1 => ?_)
                      · skip
                        have d_120_1 := Int32.not_lt.mpr c_120_1
                        have e_120_1 := q_hd_0 (r := r) (a := ia) (v := (2 : Int32)) c_87_1
                        rw [← e_120_1] at d_120_1
                        refine lv_iinc (v := (1 : Int32)) (lv' := [(2, .int (1 : Int32)), (4, .int (r (35 + 4 * ia))), (3, .int r5), (0, .ref (E.1 92)), (1, .int (nI ia))]) hx hb dX12_hardest_125 hl (k := 4) rfl (by decide) (by decide) rfl (fun ls hl => ?_)
                        refine lv_goto (tgt := 16) hx hb dX12_hardest_128 (by decide) ?_
                        refine lv_iload_n hx hb dX12_hardest_16 rfl (lv_at hl 0 rfl) ?_
                        refine lv_if_lt (tgt := 131) hx hb dX12_hardest_17 (by decide) (fun h_ => absurd h_ (by decide)) (fun _ => ?_)
                        refine lv_aload_n hx hb dX12_hardest_20 rfl (lv_at hl 3 rfl) ?_
                        refine z_get C0 hP (C := RX12) (T := TX12) (N := 21) (ci := 10) (index := 9) (k := 92) (ref := "WetSuitPedalsShoesModel") (zk_lt (rfl : zk 92 = 10) (by decide)) (zd_10 E (rfl : zk 92 = 10) _) rfl (zmi inU_12) 0 (by decide) (zm flRX12_9) rfl (v := .ref (E.1 93)) (rfl) dX12_hardest_21 ?_
                        refine lv_aload_n hx hb dX12_hardest_24 rfl (lv_at hl 3 rfl) ?_
                        refine z_get C0 hP (C := RX12) (T := TX12) (N := 21) (ci := 10) (index := 13) (k := 92) (ref := "WetSuitPedalsShoesModel") (zk_lt (rfl : zk 92 = 10) (by decide)) (zd_10 E (rfl : zk 92 = 10) _) rfl (zmi inU_12) 1 (by decide) (zm flRX12_13) rfl (v := .ref (E.1 94)) (rfl) dX12_hardest_25 ?_
                        refine z_Sv C0 hP hD hA hS (As := [.ref (E.1 93), .ref (E.1 94)]) (rest := []) (c_X12_lays l E _ 93 94 z_lit_Arr102_93 z_lit_Arr102_94 (by decide)) (va_cwS 2 hts (zgS zbw mlRX12_149 stX12_lays iniRX12 coX12_lays) rfl rfl rfl (by decide +kernel) ⟨Nat.le_of_ble_eq_true rfl, Nat.le_of_ble_eq_true rfl⟩) rfl hl.1 rfl (Nat.le_of_ble_eq_true rfl) dX12_hardest_28 ⟨Nat.zero_le _, Nat.zero_le _⟩ (fun G22 H locs hw22 hP hS => ?_)
                        obtain ⟨hF22, hcp22⟩ := hw22
                        refine lv_iconst (v := (0 : Int32)) hx hb dX12_hardest_31 (by decide) ?_
                        refine lv_istore_n (lv' := [(3, .int (0 : Int32)), (2, .int (1 : Int32)), (4, .int (r (35 + 4 * ia))), (0, .ref (E.1 92)), (1, .int (nI ia))]) hx hb dX12_hardest_32 rfl hl (by decide) rfl (fun ls hl => ?_)
                        have cut_33 : ∀ (fuel : Nat), ∀ (i : Nat) (f : Nat → Int32) (H : Heap) (locs : List Loc) (ls : Array Slot), (i ≤ n) → (∀ j, j < 102 → f j = s_rd r ia (1 : Int32) i j) → zP E (g1 G22 94 f) H → va_S (zA E s_.heap.size) s_.heap H locs → lv_has ls 5 [(0, .ref (E.1 92)), (1, .int (nI ia)), (2, .int (1 : Int32)), (3, .int (nI i))] → n - i < fuel → W p_ l e_ ({ frames := 6, cells := 0, slots := 0, locals := 142 } : Room) s_ m_ a_ b_ me_ c_ H locs 0 0 Q_ (F0 m_ 33 ls []) := by
                          intro fuel
                          induction fuel with
                          | zero =>
                            intro i  f  H locs ls hin hf hP hS hl hfu
                            exact absurd hfu (Nat.not_lt_zero _)
                          | succ fuel ih_33 =>
                            intro i  f  H locs ls hin hf hP hS hl hfu_33
                            refine lv_iload_n hx hb dX12_hardest_33 rfl (lv_at hl 3 rfl) ?_
                            refine lv_aload_n hx hb dX12_hardest_34 rfl (lv_at hl 0 rfl) ?_
                            refine z_get C0 hP (C := RX12) (T := TX12) (N := 21) (ci := 10) (index := 9) (k := 92) (ref := "WetSuitPedalsShoesModel") (zk_lt (rfl : zk 92 = 10) (by decide)) (zd_10 E (rfl : zk 92 = 10) _) rfl (zmi inU_12) 0 (by decide) (zm flRX12_9) rfl (v := .ref (E.1 93)) (rfl) dX12_hardest_35 ?_
                            refine lv_iconst (v := (0 : Int32)) hx hb dX12_hardest_38 (by decide) ?_
                            refine z_iald C0 hP (k := 93) (i := 0) (v := (nI n)) (rfl : zk 93 = 11) (Nat.lt_of_lt_of_eq (show 0 < 102 by decide) (rfl : zl 93 = 102).symm) rfl dX12_hardest_39 ((congrFun ((g1_n (by decide)).trans ((hF22 _ (by decide)).trans ((hF5 _ (by decide)).trans ((g1_n (by decide)).trans ((hF4 _ (by decide)).trans ((hF3 _ (by decide)).trans ((g1_n (by decide)).trans ((hF2 _ (by decide)).trans (hM))))))))) _).trans (hrn)) ?_
                            refine z_N_ge hx hb (a := i) (b := n) (tgt := 71) dX12_hardest_40 rfl rfl (by omega) (by omega) (by decide) (fun c_40_2 => ?_) (fun c_40_2 => ?_)
                            · skip
                              refine lv_aload_n hx hb dX12_hardest_71 rfl (lv_at hl 0 rfl) ?_
                              refine lv_aload_n hx hb dX12_hardest_72 rfl (lv_at hl 0 rfl) ?_
                              refine z_get C0 hP (C := RX12) (T := TX12) (N := 21) (ci := 10) (index := 13) (k := 92) (ref := "WetSuitPedalsShoesModel") (zk_lt (rfl : zk 92 = 10) (by decide)) (zd_10 E (rfl : zk 92 = 10) _) rfl (zmi inU_12) 1 (by decide) (zm flRX12_13) rfl (v := .ref (E.1 94)) (rfl) dX12_hardest_73 ?_
                              refine lv_iload_n hx hb dX12_hardest_76 rfl (lv_at hl 1 rfl) ?_
                              refine z_Vi C0 hP hD hA hS (As := [.ref (E.1 94), .int (nI ia)]) (rest := []) (k := 92) (c_X12_finishOf l E _ 94 ia n z_lit_Arr102_94 (by omega) ((congrFun (g1_s _ _ _) _).trans ((hf 0 (by decide)).trans ((s_rd_o _ 0 (by omega)).trans hrn))) (by omega) (by omega)) (cwV 2 hts (zgV zbw mlRX12_156 imX12_finishOf seX12_finishOf iniRX12 coX12_finishOf) rfl rfl rfl (by decide +kernel) ⟨Nat.le_of_ble_eq_true rfl, Nat.le_of_ble_eq_true rfl⟩) (zk_lt (rfl : zk 92 = 10) (by decide)) (zd_10 E (rfl : zk 92 = 10) _) rfl rfl rfl hl.1 rfl (Nat.le_of_ble_eq_true rfl) dX12_hardest_77 ⟨Nat.zero_le _, Nat.zero_le _⟩ (fun r23 G23 H locs hw23 hP hS => ?_)
                              obtain ⟨hr23, hF23, hrow23⟩ := hw23
                              rw [show (g1 G22 94 f) 94 = f from g1_s _ _ _] at hr23 hrow23
                              refine lv_istore_n (lv' := [(3, .int r23), (0, .ref (E.1 92)), (1, .int (nI ia)), (2, .int (1 : Int32))]) hx hb dX12_hardest_80 rfl hl (by decide) rfl (fun ls hl => ?_)
                              refine lv_aload_n hx hb dX12_hardest_81 rfl (lv_at hl 1 rfl) ?_
                              refine z_get C0 hP (C := RX12) (T := TX12) (N := 21) (ci := 10) (index := 9) (k := 92) (ref := "WetSuitPedalsShoesModel") (zk_lt (rfl : zk 92 = 10) (by decide)) (zd_10 E (rfl : zk 92 = 10) _) rfl (zmi inU_12) 0 (by decide) (zm flRX12_9) rfl (v := .ref (E.1 93)) (rfl) dX12_hardest_82 ?_
                              refine lv_iconst (v := (0 : Int32)) hx hb dX12_hardest_85 (by decide) ?_
                              refine z_iald C0 hP (k := 93) (i := 0) (v := (nI n)) (rfl : zk 93 = 11) (Nat.lt_of_lt_of_eq (show 0 < 102 by decide) (rfl : zl 93 = 102).symm) rfl dX12_hardest_86 ((congrFun ((hF23 _ (by decide)).trans ((g1_n (by decide)).trans ((hF22 _ (by decide)).trans ((hF5 _ (by decide)).trans ((g1_n (by decide)).trans ((hF4 _ (by decide)).trans ((hF3 _ (by decide)).trans ((g1_n (by decide)).trans ((hF2 _ (by decide)).trans (hM)))))))))) _).trans (hrn)) ?_
                              refine z_0_ne hx hb (a := n) (tgt := 103) dX12_hardest_87 rfl (by omega) (by decide) (fun c_87_2 => ?_) (fun c_87_2 => ?_)
                              · skip
                                refine lv_aload_n hx hb dX12_hardest_103 rfl (lv_at hl 1 rfl) ?_
                                refine z_get C0 hP (C := RX12) (T := TX12) (N := 21) (ci := 10) (index := 34) (k := 92) (ref := "WetSuitPedalsShoesModel") (zk_lt (rfl : zk 92 = 10) (by decide)) (zd_10 E (rfl : zk 92 = 10) _) rfl (zmi inU_12) 11 (by decide) (zm flRX12_34) rfl (v := .ref (E.1 101)) (rfl) dX12_hardest_104 ?_
                                refine lv_aload_n hx hb dX12_hardest_107 rfl (lv_at hl 1 rfl) ?_
                                refine z_get C0 hP (C := RX12) (T := TX12) (N := 21) (ci := 10) (index := 9) (k := 92) (ref := "WetSuitPedalsShoesModel") (zk_lt (rfl : zk 92 = 10) (by decide)) (zd_10 E (rfl : zk 92 = 10) _) rfl (zmi inU_12) 0 (by decide) (zm flRX12_9) rfl (v := .ref (E.1 93)) (rfl) dX12_hardest_108 ?_
                                refine lv_iconst (v := (0 : Int32)) hx hb dX12_hardest_111 (by decide) ?_
                                refine z_iald C0 hP (k := 93) (i := 0) (v := (nI n)) (rfl : zk 93 = 11) (Nat.lt_of_lt_of_eq (show 0 < 102 by decide) (rfl : zl 93 = 102).symm) rfl dX12_hardest_112 ((congrFun ((hF23 _ (by decide)).trans ((g1_n (by decide)).trans ((hF22 _ (by decide)).trans ((hF5 _ (by decide)).trans ((g1_n (by decide)).trans ((hF4 _ (by decide)).trans ((hF3 _ (by decide)).trans ((g1_n (by decide)).trans ((hF2 _ (by decide)).trans (hM)))))))))) _).trans (hrn)) ?_
                                refine lv_iconst (v := (1 : Int32)) hx hb dX12_hardest_113 (by decide) ?_
                                refine z_isub hx hb (a := n) (b := 1) (n := n - 1) dX12_hardest_114 rfl rfl (by omega) (by omega) ?_
                                refine z_iald C0 hP (k := 101) (i := n - 1) (v := ((m_run f ia (-1) (n - 1 + 1)).1)) (rfl : zk 101 = 11) (Nat.lt_of_lt_of_eq (show n - 1 < 10 by omega) (rfl : zl 101 = 10).symm) rfl dX12_hardest_115 ((hrow23 (n - 1) (by omega)).2.1) ?_
                                refine lv_istore (lv' := [(4, .int ((m_run f ia (-1) (n - 1 + 1)).1)), (3, .int r23), (0, .ref (E.1 92)), (1, .int (nI ia)), (2, .int (1 : Int32))]) hx hb dX12_hardest_116 hl (by decide) rfl (fun ls hl => ?_)
                                refine lv_iload hx hb dX12_hardest_118 (lv_at hl 0 rfl) ?_
                                refine lv_if_le (tgt := 125) hx hb dX12_hardest_120 (by decide) (fun c_120_2 => ?_) (fun c_120_2 => ?_)
                                · skip
                                  have d_120_2 := Int32.not_lt.mpr c_120_2
                                  have e_120_2 := q_hd_m (v := (1 : Int32)) c_87_2 hin c_40_2 (by omega) (by omega) hf
                                  rw [← e_120_2] at d_120_2
                                  refine lv_iinc (v := (0 : Int32)) (lv' := [(2, .int (0 : Int32)), (4, .int ((m_run f ia (-1) (n - 1 + 1)).1)), (3, .int r23), (0, .ref (E.1 92)), (1, .int (nI ia))]) hx hb dX12_hardest_125 hl (k := 4) rfl (by decide) (by decide) rfl (fun ls hl => ?_)
                                  refine lv_goto (tgt := 16) hx hb dX12_hardest_128 (by decide) ?_
                                  refine lv_iload_n hx hb dX12_hardest_16 rfl (lv_at hl 0 rfl) ?_
                                  refine lv_if_lt (tgt := 131) hx hb dX12_hardest_17 (by decide) (fun h_ => absurd h_ (by decide)) (fun _ => ?_)
                                  refine lv_aload_n hx hb dX12_hardest_20 rfl (lv_at hl 3 rfl) ?_
                                  refine z_get C0 hP (C := RX12) (T := TX12) (N := 21) (ci := 10) (index := 9) (k := 92) (ref := "WetSuitPedalsShoesModel") (zk_lt (rfl : zk 92 = 10) (by decide)) (zd_10 E (rfl : zk 92 = 10) _) rfl (zmi inU_12) 0 (by decide) (zm flRX12_9) rfl (v := .ref (E.1 93)) (rfl) dX12_hardest_21 ?_
                                  refine lv_aload_n hx hb dX12_hardest_24 rfl (lv_at hl 3 rfl) ?_
                                  refine z_get C0 hP (C := RX12) (T := TX12) (N := 21) (ci := 10) (index := 13) (k := 92) (ref := "WetSuitPedalsShoesModel") (zk_lt (rfl : zk 92 = 10) (by decide)) (zd_10 E (rfl : zk 92 = 10) _) rfl (zmi inU_12) 1 (by decide) (zm flRX12_13) rfl (v := .ref (E.1 94)) (rfl) dX12_hardest_25 ?_
                                  refine z_Sv C0 hP hD hA hS (As := [.ref (E.1 93), .ref (E.1 94)]) (rest := []) (c_X12_lays l E _ 93 94 z_lit_Arr102_93 z_lit_Arr102_94 (by decide)) (va_cwS 2 hts (zgS zbw mlRX12_149 stX12_lays iniRX12 coX12_lays) rfl rfl rfl (by decide +kernel) ⟨Nat.le_of_ble_eq_true rfl, Nat.le_of_ble_eq_true rfl⟩) rfl hl.1 rfl (Nat.le_of_ble_eq_true rfl) dX12_hardest_28 ⟨Nat.zero_le _, Nat.zero_le _⟩ (fun G24 H locs hw24 hP hS => ?_)
                                  obtain ⟨hF24, hcp24⟩ := hw24
                                  refine lv_iconst (v := (0 : Int32)) hx hb dX12_hardest_31 (by decide) ?_
                                  refine lv_istore_n (lv' := [(3, .int (0 : Int32)), (2, .int (0 : Int32)), (4, .int ((m_run f ia (-1) (n - 1 + 1)).1)), (0, .ref (E.1 92)), (1, .int (nI ia))]) hx hb dX12_hardest_32 rfl hl (by decide) rfl (fun ls hl => ?_)
                                  have cut_33 : ∀ (fuel : Nat), ∀ (i : Nat) (f : Nat → Int32) (H : Heap) (locs : List Loc) (ls : Array Slot), (i ≤ n) → (∀ j, j < 102 → f j = s_rd r ia (0 : Int32) i j) → zP E (g1 G24 94 f) H → va_S (zA E s_.heap.size) s_.heap H locs → lv_has ls 5 [(0, .ref (E.1 92)), (1, .int (nI ia)), (2, .int (0 : Int32)), (3, .int (nI i))] → n - i < fuel → W p_ l e_ ({ frames := 6, cells := 0, slots := 0, locals := 142 } : Room) s_ m_ a_ b_ me_ c_ H locs 0 0 Q_ (F0 m_ 33 ls []) := by
                                    intro fuel
                                    induction fuel with
                                    | zero =>
                                      intro i  f  H locs ls hin hf hP hS hl hfu
                                      exact absurd hfu (Nat.not_lt_zero _)
                                    | succ fuel ih_33 =>
                                      intro i  f  H locs ls hin hf hP hS hl hfu_33
                                      refine lv_iload_n hx hb dX12_hardest_33 rfl (lv_at hl 3 rfl) ?_
                                      refine lv_aload_n hx hb dX12_hardest_34 rfl (lv_at hl 0 rfl) ?_
                                      refine z_get C0 hP (C := RX12) (T := TX12) (N := 21) (ci := 10) (index := 9) (k := 92) (ref := "WetSuitPedalsShoesModel") (zk_lt (rfl : zk 92 = 10) (by decide)) (zd_10 E (rfl : zk 92 = 10) _) rfl (zmi inU_12) 0 (by decide) (zm flRX12_9) rfl (v := .ref (E.1 93)) (rfl) dX12_hardest_35 ?_
                                      refine lv_iconst (v := (0 : Int32)) hx hb dX12_hardest_38 (by decide) ?_
                                      refine z_iald C0 hP (k := 93) (i := 0) (v := (nI n)) (rfl : zk 93 = 11) (Nat.lt_of_lt_of_eq (show 0 < 102 by decide) (rfl : zl 93 = 102).symm) rfl dX12_hardest_39 ((congrFun ((g1_n (by decide)).trans ((hF24 _ (by decide)).trans ((hF23 _ (by decide)).trans ((g1_n (by decide)).trans ((hF22 _ (by decide)).trans ((hF5 _ (by decide)).trans ((g1_n (by decide)).trans ((hF4 _ (by decide)).trans ((hF3 _ (by decide)).trans ((g1_n (by decide)).trans ((hF2 _ (by decide)).trans (hM)))))))))))) _).trans (hrn)) ?_
                                      refine z_N_ge hx hb (a := i) (b := n) (tgt := 71) dX12_hardest_40 rfl rfl (by omega) (by omega) (by decide) (fun c_40_3 => ?_) (fun c_40_3 => ?_)
                                      · skip
                                        refine lv_aload_n hx hb dX12_hardest_71 rfl (lv_at hl 0 rfl) ?_
                                        refine lv_aload_n hx hb dX12_hardest_72 rfl (lv_at hl 0 rfl) ?_
                                        refine z_get C0 hP (C := RX12) (T := TX12) (N := 21) (ci := 10) (index := 13) (k := 92) (ref := "WetSuitPedalsShoesModel") (zk_lt (rfl : zk 92 = 10) (by decide)) (zd_10 E (rfl : zk 92 = 10) _) rfl (zmi inU_12) 1 (by decide) (zm flRX12_13) rfl (v := .ref (E.1 94)) (rfl) dX12_hardest_73 ?_
                                        refine lv_iload_n hx hb dX12_hardest_76 rfl (lv_at hl 1 rfl) ?_
                                        refine z_Vi C0 hP hD hA hS (As := [.ref (E.1 94), .int (nI ia)]) (rest := []) (k := 92) (c_X12_finishOf l E _ 94 ia n z_lit_Arr102_94 (by omega) ((congrFun (g1_s _ _ _) _).trans ((hf 0 (by decide)).trans ((s_rd_o _ 0 (by omega)).trans hrn))) (by omega) (by omega)) (cwV 2 hts (zgV zbw mlRX12_156 imX12_finishOf seX12_finishOf iniRX12 coX12_finishOf) rfl rfl rfl (by decide +kernel) ⟨Nat.le_of_ble_eq_true rfl, Nat.le_of_ble_eq_true rfl⟩) (zk_lt (rfl : zk 92 = 10) (by decide)) (zd_10 E (rfl : zk 92 = 10) _) rfl rfl rfl hl.1 rfl (Nat.le_of_ble_eq_true rfl) dX12_hardest_77 ⟨Nat.zero_le _, Nat.zero_le _⟩ (fun r25 G25 H locs hw25 hP hS => ?_)
                                        obtain ⟨hr25, hF25, hrow25⟩ := hw25
                                        rw [show (g1 G24 94 f) 94 = f from g1_s _ _ _] at hr25 hrow25
                                        refine lv_istore_n (lv' := [(3, .int r25), (0, .ref (E.1 92)), (1, .int (nI ia)), (2, .int (0 : Int32))]) hx hb dX12_hardest_80 rfl hl (by decide) rfl (fun ls hl => ?_)
                                        refine lv_aload_n hx hb dX12_hardest_81 rfl (lv_at hl 1 rfl) ?_
                                        refine z_get C0 hP (C := RX12) (T := TX12) (N := 21) (ci := 10) (index := 9) (k := 92) (ref := "WetSuitPedalsShoesModel") (zk_lt (rfl : zk 92 = 10) (by decide)) (zd_10 E (rfl : zk 92 = 10) _) rfl (zmi inU_12) 0 (by decide) (zm flRX12_9) rfl (v := .ref (E.1 93)) (rfl) dX12_hardest_82 ?_
                                        refine lv_iconst (v := (0 : Int32)) hx hb dX12_hardest_85 (by decide) ?_
                                        refine z_iald C0 hP (k := 93) (i := 0) (v := (nI n)) (rfl : zk 93 = 11) (Nat.lt_of_lt_of_eq (show 0 < 102 by decide) (rfl : zl 93 = 102).symm) rfl dX12_hardest_86 ((congrFun ((hF25 _ (by decide)).trans ((g1_n (by decide)).trans ((hF24 _ (by decide)).trans ((hF23 _ (by decide)).trans ((g1_n (by decide)).trans ((hF22 _ (by decide)).trans ((hF5 _ (by decide)).trans ((g1_n (by decide)).trans ((hF4 _ (by decide)).trans ((hF3 _ (by decide)).trans ((g1_n (by decide)).trans ((hF2 _ (by decide)).trans (hM))))))))))))) _).trans (hrn)) ?_
                                        refine z_0_ne hx hb (a := n) (tgt := 103) dX12_hardest_87 rfl (by omega) (by decide) (fun c_87_3 => ?_) (fun c_87_3 => ?_)
                                        · skip
                                          refine lv_aload_n hx hb dX12_hardest_103 rfl (lv_at hl 1 rfl) ?_
                                          refine z_get C0 hP (C := RX12) (T := TX12) (N := 21) (ci := 10) (index := 34) (k := 92) (ref := "WetSuitPedalsShoesModel") (zk_lt (rfl : zk 92 = 10) (by decide)) (zd_10 E (rfl : zk 92 = 10) _) rfl (zmi inU_12) 11 (by decide) (zm flRX12_34) rfl (v := .ref (E.1 101)) (rfl) dX12_hardest_104 ?_
                                          refine lv_aload_n hx hb dX12_hardest_107 rfl (lv_at hl 1 rfl) ?_
                                          refine z_get C0 hP (C := RX12) (T := TX12) (N := 21) (ci := 10) (index := 9) (k := 92) (ref := "WetSuitPedalsShoesModel") (zk_lt (rfl : zk 92 = 10) (by decide)) (zd_10 E (rfl : zk 92 = 10) _) rfl (zmi inU_12) 0 (by decide) (zm flRX12_9) rfl (v := .ref (E.1 93)) (rfl) dX12_hardest_108 ?_
                                          refine lv_iconst (v := (0 : Int32)) hx hb dX12_hardest_111 (by decide) ?_
                                          refine z_iald C0 hP (k := 93) (i := 0) (v := (nI n)) (rfl : zk 93 = 11) (Nat.lt_of_lt_of_eq (show 0 < 102 by decide) (rfl : zl 93 = 102).symm) rfl dX12_hardest_112 ((congrFun ((hF25 _ (by decide)).trans ((g1_n (by decide)).trans ((hF24 _ (by decide)).trans ((hF23 _ (by decide)).trans ((g1_n (by decide)).trans ((hF22 _ (by decide)).trans ((hF5 _ (by decide)).trans ((g1_n (by decide)).trans ((hF4 _ (by decide)).trans ((hF3 _ (by decide)).trans ((g1_n (by decide)).trans ((hF2 _ (by decide)).trans (hM))))))))))))) _).trans (hrn)) ?_
                                          refine lv_iconst (v := (1 : Int32)) hx hb dX12_hardest_113 (by decide) ?_
                                          refine z_isub hx hb (a := n) (b := 1) (n := n - 1) dX12_hardest_114 rfl rfl (by omega) (by omega) ?_
                                          refine z_iald C0 hP (k := 101) (i := n - 1) (v := ((m_run f ia (-1) (n - 1 + 1)).1)) (rfl : zk 101 = 11) (Nat.lt_of_lt_of_eq (show n - 1 < 10 by omega) (rfl : zl 101 = 10).symm) rfl dX12_hardest_115 ((hrow25 (n - 1) (by omega)).2.1) ?_
                                          refine lv_istore (lv' := [(4, .int ((m_run f ia (-1) (n - 1 + 1)).1)), (3, .int r25), (0, .ref (E.1 92)), (1, .int (nI ia)), (2, .int (0 : Int32))]) hx hb dX12_hardest_116 hl (by decide) rfl (fun ls hl => ?_)
                                          refine lv_iload hx hb dX12_hardest_118 (lv_at hl 0 rfl) ?_
                                          refine lv_if_le (tgt := 125) hx hb dX12_hardest_120 (by decide) (fun c_120_3 => ?_) (fun c_120_3 => ?_)
                                          · skip
                                            have d_120_3 := Int32.not_lt.mpr c_120_3
                                            have e_120_3 := q_hd_m (v := (0 : Int32)) c_87_3 hin c_40_3 (by omega) (by omega) hf
                                            rw [← e_120_3] at d_120_3
                                            refine lv_iinc (v := (-1 : Int32)) (lv' := [(2, .int (-1 : Int32)), (4, .int ((m_run f ia (-1) (n - 1 + 1)).1)), (3, .int r25), (0, .ref (E.1 92)), (1, .int (nI ia))]) hx hb dX12_hardest_125 hl (k := 4) rfl (by decide) (by decide) rfl (fun ls hl => ?_)
                                            refine lv_goto (tgt := 16) hx hb dX12_hardest_128 (by decide) ?_
                                            refine lv_iload_n hx hb dX12_hardest_16 rfl (lv_at hl 0 rfl) ?_
                                            refine lv_if_lt (tgt := 131) hx hb dX12_hardest_17 (by decide) (fun _ => ?_) (fun h_ => absurd (by decide) h_)
                                            refine lv_bipush (v := (-9 : Int32)) hx hb dX12_hardest_131 (by decide) ?_
                                            subst hQ_
                                            exact z_iret C0 hP hS (v := (-9 : Int32)) (by exact zQm_of (k := 0) (by simp [A_hardest, hz_ia, hy_ia, d_120, d_120_1, d_120_2, d_120_3]) (fun k hk => (hF25 k (by omega)).trans ((g1_n (by omega)).trans ((hF24 k (by omega)).trans ((hF23 k (by omega)).trans ((g1_n (by omega)).trans ((hF22 k (by omega)).trans ((hF5 k (by omega)).trans ((g1_n (by omega)).trans ((hF4 k (by omega)).trans ((hF3 k (by omega)).trans ((g1_n (by omega)).trans (hF2 k (by omega))))))))))))) ((hF25 _ (by decide)).trans ((g1_n (by decide)).trans ((hF24 _ (by decide)).trans ((hF23 _ (by decide)).trans ((g1_n (by decide)).trans ((hF22 _ (by decide)).trans ((hF5 _ (by decide)).trans ((g1_n (by decide)).trans ((hF4 _ (by decide)).trans ((hF3 _ (by decide)).trans ((g1_n (by decide)).trans (hF2 _ (by decide)))))))))))))) dX12_hardest_133
                                          · skip
                                            have d_120_3 := Int32.not_le.mp c_120_3
                                            have e_120_3 := q_hd_m (v := (0 : Int32)) c_87_3 hin c_40_3 (by omega) (by omega) hf
                                            rw [← e_120_3] at d_120_3
                                            refine lv_iload_n hx hb dX12_hardest_123 rfl (lv_at hl 4 rfl) ?_
                                            subst hQ_
                                            exact z_iret C0 hP hS (v := (0 : Int32)) (by exact zQm_of (k := 0) (by simp [A_hardest, hz_ia, hy_ia, d_120, d_120_1, d_120_2, d_120_3]) (fun k hk => (hF25 k (by omega)).trans ((g1_n (by omega)).trans ((hF24 k (by omega)).trans ((hF23 k (by omega)).trans ((g1_n (by omega)).trans ((hF22 k (by omega)).trans ((hF5 k (by omega)).trans ((g1_n (by omega)).trans ((hF4 k (by omega)).trans ((hF3 k (by omega)).trans ((g1_n (by omega)).trans (hF2 k (by omega))))))))))))) ((hF25 _ (by decide)).trans ((g1_n (by decide)).trans ((hF24 _ (by decide)).trans ((hF23 _ (by decide)).trans ((g1_n (by decide)).trans ((hF22 _ (by decide)).trans ((hF5 _ (by decide)).trans ((g1_n (by decide)).trans ((hF4 _ (by decide)).trans ((hF3 _ (by decide)).trans ((g1_n (by decide)).trans (hF2 _ (by decide)))))))))))))) dX12_hardest_124
                                        · skip
                                          refine lv_aload_n hx hb dX12_hardest_90 rfl (lv_at hl 1 rfl) ?_
                                          refine z_get C0 hP (C := RX12) (T := TX12) (N := 21) (ci := 10) (index := 9) (k := 92) (ref := "WetSuitPedalsShoesModel") (zk_lt (rfl : zk 92 = 10) (by decide)) (zd_10 E (rfl : zk 92 = 10) _) rfl (zmi inU_12) 0 (by decide) (zm flRX12_9) rfl (v := .ref (E.1 93)) (rfl) dX12_hardest_91 ?_
                                          refine lv_iload_n hx hb dX12_hardest_94 rfl (lv_at hl 2 rfl) ?_
                                          refine lv_iconst (v := (3 : Int32)) hx hb dX12_hardest_95 (by decide) ?_
                                          refine z_Si C0 hP hD hA hS (As := [.int (nI ia), .int (3 : Int32)]) (rest := [.ref (E.1 93)]) (c_X12_athleteAt l E _ ia 3) (va_cwS 2 hts (zgS zbw mlRX12_70 stX12_athleteAt iniRX12 coX12_athleteAt) rfl rfl rfl (by decide +kernel) ⟨Nat.le_of_ble_eq_true rfl, Nat.le_of_ble_eq_true rfl⟩) rfl hl.1 rfl (Nat.le_of_ble_eq_true rfl) dX12_hardest_96 ⟨Nat.zero_le _, Nat.zero_le _⟩ (fun r26 G26 H locs hw26 hP hS => ?_)
                                          obtain ⟨hr26, rfl⟩ := hw26
                                          subst hr26
                                          refine z_eqi (y := (nI (35 + 4 * ia))) (congrArg nI (by omega)) ?_
                                          refine z_iald C0 hP (k := 93) (i := 35 + 4 * ia) (v := (r (35 + 4 * ia))) (rfl : zk 93 = 11) (Nat.lt_of_lt_of_eq (show 35 + 4 * ia < 102 by omega) (rfl : zl 93 = 102).symm) rfl dX12_hardest_99 (congrFun ((hF25 _ (by decide)).trans ((g1_n (by decide)).trans ((hF24 _ (by decide)).trans ((hF23 _ (by decide)).trans ((g1_n (by decide)).trans ((hF22 _ (by decide)).trans ((hF5 _ (by decide)).trans ((g1_n (by decide)).trans ((hF4 _ (by decide)).trans ((hF3 _ (by decide)).trans ((g1_n (by decide)).trans ((hF2 _ (by decide)).trans (hM))))))))))))) _) ?_
                                          refine lv_goto (tgt := 116) hx hb dX12_hardest_100 (by decide) ?_
                                          refine lv_istore (lv' := [(4, .int (r (35 + 4 * ia))), (3, .int r25), (0, .ref (E.1 92)), (1, .int (nI ia)), (2, .int (0 : Int32))]) hx hb dX12_hardest_116 hl (by decide) rfl (fun ls hl => ?_)
                                          refine lv_iload hx hb dX12_hardest_118 (lv_at hl 0 rfl) ?_
                                          refine lv_if_le (tgt := 125) hx hb dX12_hardest_120 (by decide) (fun c_120_3 => ?_) (fun c_120_3 => ?_)
                                          · skip
                                            have d_120_3 := Int32.not_lt.mpr c_120_3
                                            have e_120_3 := q_hd_0 (r := r) (a := ia) (v := (0 : Int32)) c_87_3
                                            rw [← e_120_3] at d_120_3
                                            refine lv_iinc (v := (-1 : Int32)) (lv' := [(2, .int (-1 : Int32)), (4, .int (r (35 + 4 * ia))), (3, .int r25), (0, .ref (E.1 92)), (1, .int (nI ia))]) hx hb dX12_hardest_125 hl (k := 4) rfl (by decide) (by decide) rfl (fun ls hl => ?_)
                                            refine lv_goto (tgt := 16) hx hb dX12_hardest_128 (by decide) ?_
                                            refine lv_iload_n hx hb dX12_hardest_16 rfl (lv_at hl 0 rfl) ?_
                                            refine lv_if_lt (tgt := 131) hx hb dX12_hardest_17 (by decide) (fun _ => ?_) (fun h_ => absurd (by decide) h_)
                                            refine lv_bipush (v := (-9 : Int32)) hx hb dX12_hardest_131 (by decide) ?_
                                            subst hQ_
                                            exact z_iret C0 hP hS (v := (-9 : Int32)) (by exact zQm_of (k := 0) (by simp [A_hardest, hz_ia, hy_ia, d_120, d_120_1, d_120_2, d_120_3]) (fun k hk => (hF25 k (by omega)).trans ((g1_n (by omega)).trans ((hF24 k (by omega)).trans ((hF23 k (by omega)).trans ((g1_n (by omega)).trans ((hF22 k (by omega)).trans ((hF5 k (by omega)).trans ((g1_n (by omega)).trans ((hF4 k (by omega)).trans ((hF3 k (by omega)).trans ((g1_n (by omega)).trans (hF2 k (by omega))))))))))))) ((hF25 _ (by decide)).trans ((g1_n (by decide)).trans ((hF24 _ (by decide)).trans ((hF23 _ (by decide)).trans ((g1_n (by decide)).trans ((hF22 _ (by decide)).trans ((hF5 _ (by decide)).trans ((g1_n (by decide)).trans ((hF4 _ (by decide)).trans ((hF3 _ (by decide)).trans ((g1_n (by decide)).trans (hF2 _ (by decide)))))))))))))) dX12_hardest_133
                                          · skip
                                            have d_120_3 := Int32.not_le.mp c_120_3
                                            have e_120_3 := q_hd_0 (r := r) (a := ia) (v := (0 : Int32)) c_87_3
                                            rw [← e_120_3] at d_120_3
                                            refine lv_iload_n hx hb dX12_hardest_123 rfl (lv_at hl 4 rfl) ?_
                                            subst hQ_
                                            exact z_iret C0 hP hS (v := (0 : Int32)) (by exact zQm_of (k := 0) (by simp [A_hardest, hz_ia, hy_ia, d_120, d_120_1, d_120_2, d_120_3]) (fun k hk => (hF25 k (by omega)).trans ((g1_n (by omega)).trans ((hF24 k (by omega)).trans ((hF23 k (by omega)).trans ((g1_n (by omega)).trans ((hF22 k (by omega)).trans ((hF5 k (by omega)).trans ((g1_n (by omega)).trans ((hF4 k (by omega)).trans ((hF3 k (by omega)).trans ((g1_n (by omega)).trans (hF2 k (by omega))))))))))))) ((hF25 _ (by decide)).trans ((g1_n (by decide)).trans ((hF24 _ (by decide)).trans ((hF23 _ (by decide)).trans ((g1_n (by decide)).trans ((hF22 _ (by decide)).trans ((hF5 _ (by decide)).trans ((g1_n (by decide)).trans ((hF4 _ (by decide)).trans ((hF3 _ (by decide)).trans ((g1_n (by decide)).trans (hF2 _ (by decide)))))))))))))) dX12_hardest_124
                                      · skip
                                        refine lv_aload_n hx hb dX12_hardest_43 rfl (lv_at hl 0 rfl) ?_
                                        refine z_get C0 hP (C := RX12) (T := TX12) (N := 21) (ci := 10) (index := 9) (k := 92) (ref := "WetSuitPedalsShoesModel") (zk_lt (rfl : zk 92 = 10) (by decide)) (zd_10 E (rfl : zk 92 = 10) _) rfl (zmi inU_12) 0 (by decide) (zm flRX12_9) rfl (v := .ref (E.1 93)) (rfl) dX12_hardest_44 ?_
                                        refine lv_iload_n hx hb dX12_hardest_47 rfl (lv_at hl 3 rfl) ?_
                                        refine z_Si C0 hP hD hA hS (As := [.ref (E.1 93), .int (nI i)]) (rest := []) (c_X12_isRide l E _ 93 i z_lit_Arr102_93 (by omega)) (va_cwS 2 hts (zgS zbw mlRX12_73 stX12_isRide iniRX12 coX12_isRide) rfl rfl rfl (by decide +kernel) ⟨Nat.le_of_ble_eq_true rfl, Nat.le_of_ble_eq_true rfl⟩) rfl hl.1 rfl (Nat.le_of_ble_eq_true rfl) dX12_hardest_48 ⟨Nat.zero_le _, Nat.zero_le _⟩ (fun r27 G27 H locs hw27 hP hS => ?_)
                                        obtain ⟨hr27, rfl⟩ := hw27
                                        have hr27 : s_isRide (r (2 + 3 * i)) = _ := (congrArg (fun z_ : Nat → Int32 => s_isRide (z_ (2 + 3 * i))) (show (g1 G24 94 f) 93 = r from (g1_n (by decide)).trans ((hF24 _ (by decide)).trans ((hF23 _ (by decide)).trans ((g1_n (by decide)).trans ((hF22 _ (by decide)).trans ((hF5 _ (by decide)).trans ((g1_n (by decide)).trans ((hF4 _ (by decide)).trans ((hF3 _ (by decide)).trans ((g1_n (by decide)).trans ((hF2 _ (by decide)).trans (hM))))))))))))).symm.trans hr27
                                        subst hr27
                                        refine lv_if_eq (tgt := 65) hx hb dX12_hardest_51 (by decide) (fun c_51 => ?_) (fun c_51 => ?_)
                                        · skip
                                          refine lv_iinc (v := (nI (i + 1))) (lv' := [(3, .int (nI (i + 1))), (0, .ref (E.1 92)), (1, .int (nI ia)), (2, .int (0 : Int32))]) hx hb dX12_hardest_65 hl (k := 3) rfl (z_inc (by decide)) (by decide) rfl (fun ls hl => ?_)
                                          refine lv_goto (tgt := 33) hx hb dX12_hardest_68 (by decide) ?_
                                          exact ih_33 (i + 1) f _ _ _ (by first | assumption | omega) (by intro j hj; rw [s_rd_n (fun q => by rw [c_51] at q; exact absurd q (by decide))]; exact hf j hj) hP hS (lv_sub hl [1, 2, 3, 0] rfl) (by omega)
                                        · skip
                                          refine lv_aload_n hx hb dX12_hardest_54 rfl (lv_at hl 0 rfl) ?_
                                          refine z_get C0 hP (C := RX12) (T := TX12) (N := 21) (ci := 10) (index := 13) (k := 92) (ref := "WetSuitPedalsShoesModel") (zk_lt (rfl : zk 92 = 10) (by decide)) (zd_10 E (rfl : zk 92 = 10) _) rfl (zmi inU_12) 1 (by decide) (zm flRX12_13) rfl (v := .ref (E.1 94)) (rfl) dX12_hardest_55 ?_
                                          refine lv_iload_n hx hb dX12_hardest_58 rfl (lv_at hl 1 rfl) ?_
                                          refine lv_iload_n hx hb dX12_hardest_59 rfl (lv_at hl 3 rfl) ?_
                                          refine z_Si C0 hP hD hA hS (As := [.int (nI ia), .int (nI i)]) (rest := [.ref (E.1 94)]) (c_X12_tried l E _ ia i) (va_cwS 2 hts (zgS zbw mlRX12_91 stX12_tried iniRX12 coX12_tried) rfl rfl rfl (by decide +kernel) ⟨Nat.le_of_ble_eq_true rfl, Nat.le_of_ble_eq_true rfl⟩) rfl hl.1 rfl (Nat.le_of_ble_eq_true rfl) dX12_hardest_60 ⟨Nat.zero_le _, Nat.zero_le _⟩ (fun r28 G28 H locs hw28 hP hS => ?_)
                                          obtain ⟨hr28, rfl⟩ := hw28
                                          subst hr28
                                          refine z_eqi (y := (nI (52 + 10 * ia + i))) (congrArg nI (by omega)) ?_
                                          refine lv_iload_n hx hb dX12_hardest_63 rfl (lv_at hl 2 rfl) ?_
                                          refine z_iast C0 hP hD hS (k := 94) (i := 52 + 10 * ia + i) (v := (0 : Int32)) (F := f) (g1_s _ _ _) (rfl : zk 94 = 11) (Nat.lt_of_lt_of_eq (show 52 + 10 * ia + i < 102 by omega) (rfl : zl 94 = 102).symm) rfl dX12_hardest_64 (fun H locs hP hS => ?_)
                                          have hP := zP_eq (g1_t _ _ _ _ : _ = (g1 G24 94 (upd f (52 + 10 * ia + i) (0 : Int32)))) hP
                                          refine lv_iinc (v := (nI (i + 1))) (lv' := [(3, .int (nI (i + 1))), (0, .ref (E.1 92)), (1, .int (nI ia)), (2, .int (0 : Int32))]) hx hb dX12_hardest_65 hl (k := 3) rfl (z_inc (by decide)) (by decide) rfl (fun ls hl => ?_)
                                          refine lv_goto (tgt := 33) hx hb dX12_hardest_68 (by decide) ?_
                                          exact ih_33 (i + 1) (upd f (52 + 10 * ia + i) (0 : Int32)) _ _ _ (by first | assumption | omega) (by intro j hj; rw [s_rd_y (s_ride_ne c_51)]; exact upd_c hf j hj) hP hS (lv_sub hl [1, 2, 3, 0] rfl) (by omega)
                                  exact cut_33 (_ + 1) 0 (G24 94) _ _ _ (by first | assumption | omega) (by exact (fun j hj => (hcp24 j hj).trans (congrFun ((hF23 _ (by decide)).trans ((g1_n (by decide)).trans ((hF22 _ (by decide)).trans ((hF5 _ (by decide)).trans ((g1_n (by decide)).trans ((hF4 _ (by decide)).trans ((hF3 _ (by decide)).trans ((g1_n (by decide)).trans ((hF2 _ (by decide)).trans (hM)))))))))) j))) (zP_eq ((g1_e G24 94).symm) hP) hS (lv_sub hl [3, 4, 1, 0] rfl) (Nat.lt_succ_self _)
                                · skip
                                  have d_120_2 := Int32.not_le.mp c_120_2
                                  have e_120_2 := q_hd_m (v := (1 : Int32)) c_87_2 hin c_40_2 (by omega) (by omega) hf
                                  rw [← e_120_2] at d_120_2
                                  refine lv_iload_n hx hb dX12_hardest_123 rfl (lv_at hl 4 rfl) ?_
                                  subst hQ_
                                  exact z_iret C0 hP hS (v := (1 : Int32)) (by exact zQm_of (k := 0) (by simp [A_hardest, hz_ia, hy_ia, d_120, d_120_1, d_120_2]) (fun k hk => (hF23 k (by omega)).trans ((g1_n (by omega)).trans ((hF22 k (by omega)).trans ((hF5 k (by omega)).trans ((g1_n (by omega)).trans ((hF4 k (by omega)).trans ((hF3 k (by omega)).trans ((g1_n (by omega)).trans (hF2 k (by omega)))))))))) ((hF23 _ (by decide)).trans ((g1_n (by decide)).trans ((hF22 _ (by decide)).trans ((hF5 _ (by decide)).trans ((g1_n (by decide)).trans ((hF4 _ (by decide)).trans ((hF3 _ (by decide)).trans ((g1_n (by decide)).trans (hF2 _ (by decide))))))))))) dX12_hardest_124
                              · skip
                                refine lv_aload_n hx hb dX12_hardest_90 rfl (lv_at hl 1 rfl) ?_
                                refine z_get C0 hP (C := RX12) (T := TX12) (N := 21) (ci := 10) (index := 9) (k := 92) (ref := "WetSuitPedalsShoesModel") (zk_lt (rfl : zk 92 = 10) (by decide)) (zd_10 E (rfl : zk 92 = 10) _) rfl (zmi inU_12) 0 (by decide) (zm flRX12_9) rfl (v := .ref (E.1 93)) (rfl) dX12_hardest_91 ?_
                                refine lv_iload_n hx hb dX12_hardest_94 rfl (lv_at hl 2 rfl) ?_
                                refine lv_iconst (v := (3 : Int32)) hx hb dX12_hardest_95 (by decide) ?_
                                refine z_Si C0 hP hD hA hS (As := [.int (nI ia), .int (3 : Int32)]) (rest := [.ref (E.1 93)]) (c_X12_athleteAt l E _ ia 3) (va_cwS 2 hts (zgS zbw mlRX12_70 stX12_athleteAt iniRX12 coX12_athleteAt) rfl rfl rfl (by decide +kernel) ⟨Nat.le_of_ble_eq_true rfl, Nat.le_of_ble_eq_true rfl⟩) rfl hl.1 rfl (Nat.le_of_ble_eq_true rfl) dX12_hardest_96 ⟨Nat.zero_le _, Nat.zero_le _⟩ (fun r29 G29 H locs hw29 hP hS => ?_)
                                obtain ⟨hr29, rfl⟩ := hw29
                                subst hr29
                                refine z_eqi (y := (nI (35 + 4 * ia))) (congrArg nI (by omega)) ?_
                                refine z_iald C0 hP (k := 93) (i := 35 + 4 * ia) (v := (r (35 + 4 * ia))) (rfl : zk 93 = 11) (Nat.lt_of_lt_of_eq (show 35 + 4 * ia < 102 by omega) (rfl : zl 93 = 102).symm) rfl dX12_hardest_99 (congrFun ((hF23 _ (by decide)).trans ((g1_n (by decide)).trans ((hF22 _ (by decide)).trans ((hF5 _ (by decide)).trans ((g1_n (by decide)).trans ((hF4 _ (by decide)).trans ((hF3 _ (by decide)).trans ((g1_n (by decide)).trans ((hF2 _ (by decide)).trans (hM)))))))))) _) ?_
                                refine lv_goto (tgt := 116) hx hb dX12_hardest_100 (by decide) ?_
                                refine lv_istore (lv' := [(4, .int (r (35 + 4 * ia))), (3, .int r23), (0, .ref (E.1 92)), (1, .int (nI ia)), (2, .int (1 : Int32))]) hx hb dX12_hardest_116 hl (by decide) rfl (fun ls hl => ?_)
                                refine lv_iload hx hb dX12_hardest_118 (lv_at hl 0 rfl) ?_
                                refine lv_if_le (tgt := 125) hx hb dX12_hardest_120 (by decide) (fun c_120_2 => ?_) (fun c_120_2 => ?_)
                                · skip
                                  have d_120_2 := Int32.not_lt.mpr c_120_2
                                  have e_120_2 := q_hd_0 (r := r) (a := ia) (v := (1 : Int32)) c_87_2
                                  rw [← e_120_2] at d_120_2
                                  refine lv_iinc (v := (0 : Int32)) (lv' := [(2, .int (0 : Int32)), (4, .int (r (35 + 4 * ia))), (3, .int r23), (0, .ref (E.1 92)), (1, .int (nI ia))]) hx hb dX12_hardest_125 hl (k := 4) rfl (by decide) (by decide) rfl (fun ls hl => ?_)
                                  refine lv_goto (tgt := 16) hx hb dX12_hardest_128 (by decide) ?_
                                  refine lv_iload_n hx hb dX12_hardest_16 rfl (lv_at hl 0 rfl) ?_
                                  refine lv_if_lt (tgt := 131) hx hb dX12_hardest_17 (by decide) (fun h_ => absurd h_ (by decide)) (fun _ => ?_)
                                  refine lv_aload_n hx hb dX12_hardest_20 rfl (lv_at hl 3 rfl) ?_
                                  refine z_get C0 hP (C := RX12) (T := TX12) (N := 21) (ci := 10) (index := 9) (k := 92) (ref := "WetSuitPedalsShoesModel") (zk_lt (rfl : zk 92 = 10) (by decide)) (zd_10 E (rfl : zk 92 = 10) _) rfl (zmi inU_12) 0 (by decide) (zm flRX12_9) rfl (v := .ref (E.1 93)) (rfl) dX12_hardest_21 ?_
                                  refine lv_aload_n hx hb dX12_hardest_24 rfl (lv_at hl 3 rfl) ?_
                                  refine z_get C0 hP (C := RX12) (T := TX12) (N := 21) (ci := 10) (index := 13) (k := 92) (ref := "WetSuitPedalsShoesModel") (zk_lt (rfl : zk 92 = 10) (by decide)) (zd_10 E (rfl : zk 92 = 10) _) rfl (zmi inU_12) 1 (by decide) (zm flRX12_13) rfl (v := .ref (E.1 94)) (rfl) dX12_hardest_25 ?_
                                  refine z_Sv C0 hP hD hA hS (As := [.ref (E.1 93), .ref (E.1 94)]) (rest := []) (c_X12_lays l E _ 93 94 z_lit_Arr102_93 z_lit_Arr102_94 (by decide)) (va_cwS 2 hts (zgS zbw mlRX12_149 stX12_lays iniRX12 coX12_lays) rfl rfl rfl (by decide +kernel) ⟨Nat.le_of_ble_eq_true rfl, Nat.le_of_ble_eq_true rfl⟩) rfl hl.1 rfl (Nat.le_of_ble_eq_true rfl) dX12_hardest_28 ⟨Nat.zero_le _, Nat.zero_le _⟩ (fun G30 H locs hw30 hP hS => ?_)
                                  obtain ⟨hF30, hcp30⟩ := hw30
                                  refine lv_iconst (v := (0 : Int32)) hx hb dX12_hardest_31 (by decide) ?_
                                  refine lv_istore_n (lv' := [(3, .int (0 : Int32)), (2, .int (0 : Int32)), (4, .int (r (35 + 4 * ia))), (0, .ref (E.1 92)), (1, .int (nI ia))]) hx hb dX12_hardest_32 rfl hl (by decide) rfl (fun ls hl => ?_)
                                  have cut_33 : ∀ (fuel : Nat), ∀ (i : Nat) (f : Nat → Int32) (H : Heap) (locs : List Loc) (ls : Array Slot), (i ≤ n) → (∀ j, j < 102 → f j = s_rd r ia (0 : Int32) i j) → zP E (g1 G30 94 f) H → va_S (zA E s_.heap.size) s_.heap H locs → lv_has ls 5 [(0, .ref (E.1 92)), (1, .int (nI ia)), (2, .int (0 : Int32)), (3, .int (nI i))] → n - i < fuel → W p_ l e_ ({ frames := 6, cells := 0, slots := 0, locals := 142 } : Room) s_ m_ a_ b_ me_ c_ H locs 0 0 Q_ (F0 m_ 33 ls []) := by
                                    intro fuel
                                    induction fuel with
                                    | zero =>
                                      intro i  f  H locs ls hin hf hP hS hl hfu
                                      exact absurd hfu (Nat.not_lt_zero _)
                                    | succ fuel ih_33 =>
                                      intro i  f  H locs ls hin hf hP hS hl hfu_33
                                      refine lv_iload_n hx hb dX12_hardest_33 rfl (lv_at hl 3 rfl) ?_
                                      refine lv_aload_n hx hb dX12_hardest_34 rfl (lv_at hl 0 rfl) ?_
                                      refine z_get C0 hP (C := RX12) (T := TX12) (N := 21) (ci := 10) (index := 9) (k := 92) (ref := "WetSuitPedalsShoesModel") (zk_lt (rfl : zk 92 = 10) (by decide)) (zd_10 E (rfl : zk 92 = 10) _) rfl (zmi inU_12) 0 (by decide) (zm flRX12_9) rfl (v := .ref (E.1 93)) (rfl) dX12_hardest_35 ?_
                                      refine lv_iconst (v := (0 : Int32)) hx hb dX12_hardest_38 (by decide) ?_
                                      refine z_iald C0 hP (k := 93) (i := 0) (v := (nI n)) (rfl : zk 93 = 11) (Nat.lt_of_lt_of_eq (show 0 < 102 by decide) (rfl : zl 93 = 102).symm) rfl dX12_hardest_39 ((congrFun ((g1_n (by decide)).trans ((hF30 _ (by decide)).trans ((hF23 _ (by decide)).trans ((g1_n (by decide)).trans ((hF22 _ (by decide)).trans ((hF5 _ (by decide)).trans ((g1_n (by decide)).trans ((hF4 _ (by decide)).trans ((hF3 _ (by decide)).trans ((g1_n (by decide)).trans ((hF2 _ (by decide)).trans (hM)))))))))))) _).trans (hrn)) ?_
                                      refine z_N_ge hx hb (a := i) (b := n) (tgt := 71) dX12_hardest_40 rfl rfl (by omega) (by omega) (by decide) (fun c_40_3 => ?_) (fun c_40_3 => ?_)
                                      · skip
                                        refine lv_aload_n hx hb dX12_hardest_71 rfl (lv_at hl 0 rfl) ?_
                                        refine lv_aload_n hx hb dX12_hardest_72 rfl (lv_at hl 0 rfl) ?_
                                        refine z_get C0 hP (C := RX12) (T := TX12) (N := 21) (ci := 10) (index := 13) (k := 92) (ref := "WetSuitPedalsShoesModel") (zk_lt (rfl : zk 92 = 10) (by decide)) (zd_10 E (rfl : zk 92 = 10) _) rfl (zmi inU_12) 1 (by decide) (zm flRX12_13) rfl (v := .ref (E.1 94)) (rfl) dX12_hardest_73 ?_
                                        refine lv_iload_n hx hb dX12_hardest_76 rfl (lv_at hl 1 rfl) ?_
                                        refine z_Vi C0 hP hD hA hS (As := [.ref (E.1 94), .int (nI ia)]) (rest := []) (k := 92) (c_X12_finishOf l E _ 94 ia n z_lit_Arr102_94 (by omega) ((congrFun (g1_s _ _ _) _).trans ((hf 0 (by decide)).trans ((s_rd_o _ 0 (by omega)).trans hrn))) (by omega) (by omega)) (cwV 2 hts (zgV zbw mlRX12_156 imX12_finishOf seX12_finishOf iniRX12 coX12_finishOf) rfl rfl rfl (by decide +kernel) ⟨Nat.le_of_ble_eq_true rfl, Nat.le_of_ble_eq_true rfl⟩) (zk_lt (rfl : zk 92 = 10) (by decide)) (zd_10 E (rfl : zk 92 = 10) _) rfl rfl rfl hl.1 rfl (Nat.le_of_ble_eq_true rfl) dX12_hardest_77 ⟨Nat.zero_le _, Nat.zero_le _⟩ (fun r31 G31 H locs hw31 hP hS => ?_)
                                        obtain ⟨hr31, hF31, hrow31⟩ := hw31
                                        rw [show (g1 G30 94 f) 94 = f from g1_s _ _ _] at hr31 hrow31
                                        refine lv_istore_n (lv' := [(3, .int r31), (0, .ref (E.1 92)), (1, .int (nI ia)), (2, .int (0 : Int32))]) hx hb dX12_hardest_80 rfl hl (by decide) rfl (fun ls hl => ?_)
                                        refine lv_aload_n hx hb dX12_hardest_81 rfl (lv_at hl 1 rfl) ?_
                                        refine z_get C0 hP (C := RX12) (T := TX12) (N := 21) (ci := 10) (index := 9) (k := 92) (ref := "WetSuitPedalsShoesModel") (zk_lt (rfl : zk 92 = 10) (by decide)) (zd_10 E (rfl : zk 92 = 10) _) rfl (zmi inU_12) 0 (by decide) (zm flRX12_9) rfl (v := .ref (E.1 93)) (rfl) dX12_hardest_82 ?_
                                        refine lv_iconst (v := (0 : Int32)) hx hb dX12_hardest_85 (by decide) ?_
                                        refine z_iald C0 hP (k := 93) (i := 0) (v := (nI n)) (rfl : zk 93 = 11) (Nat.lt_of_lt_of_eq (show 0 < 102 by decide) (rfl : zl 93 = 102).symm) rfl dX12_hardest_86 ((congrFun ((hF31 _ (by decide)).trans ((g1_n (by decide)).trans ((hF30 _ (by decide)).trans ((hF23 _ (by decide)).trans ((g1_n (by decide)).trans ((hF22 _ (by decide)).trans ((hF5 _ (by decide)).trans ((g1_n (by decide)).trans ((hF4 _ (by decide)).trans ((hF3 _ (by decide)).trans ((g1_n (by decide)).trans ((hF2 _ (by decide)).trans (hM))))))))))))) _).trans (hrn)) ?_
                                        refine z_0_ne hx hb (a := n) (tgt := 103) dX12_hardest_87 rfl (by omega) (by decide) (fun c_87_3 => ?_) (fun c_87_3 => ?_)
                                        · skip
                                          refine lv_aload_n hx hb dX12_hardest_103 rfl (lv_at hl 1 rfl) ?_
                                          refine z_get C0 hP (C := RX12) (T := TX12) (N := 21) (ci := 10) (index := 34) (k := 92) (ref := "WetSuitPedalsShoesModel") (zk_lt (rfl : zk 92 = 10) (by decide)) (zd_10 E (rfl : zk 92 = 10) _) rfl (zmi inU_12) 11 (by decide) (zm flRX12_34) rfl (v := .ref (E.1 101)) (rfl) dX12_hardest_104 ?_
                                          refine lv_aload_n hx hb dX12_hardest_107 rfl (lv_at hl 1 rfl) ?_
                                          refine z_get C0 hP (C := RX12) (T := TX12) (N := 21) (ci := 10) (index := 9) (k := 92) (ref := "WetSuitPedalsShoesModel") (zk_lt (rfl : zk 92 = 10) (by decide)) (zd_10 E (rfl : zk 92 = 10) _) rfl (zmi inU_12) 0 (by decide) (zm flRX12_9) rfl (v := .ref (E.1 93)) (rfl) dX12_hardest_108 ?_
                                          refine lv_iconst (v := (0 : Int32)) hx hb dX12_hardest_111 (by decide) ?_
                                          refine z_iald C0 hP (k := 93) (i := 0) (v := (nI n)) (rfl : zk 93 = 11) (Nat.lt_of_lt_of_eq (show 0 < 102 by decide) (rfl : zl 93 = 102).symm) rfl dX12_hardest_112 ((congrFun ((hF31 _ (by decide)).trans ((g1_n (by decide)).trans ((hF30 _ (by decide)).trans ((hF23 _ (by decide)).trans ((g1_n (by decide)).trans ((hF22 _ (by decide)).trans ((hF5 _ (by decide)).trans ((g1_n (by decide)).trans ((hF4 _ (by decide)).trans ((hF3 _ (by decide)).trans ((g1_n (by decide)).trans ((hF2 _ (by decide)).trans (hM))))))))))))) _).trans (hrn)) ?_
                                          refine lv_iconst (v := (1 : Int32)) hx hb dX12_hardest_113 (by decide) ?_
                                          refine z_isub hx hb (a := n) (b := 1) (n := n - 1) dX12_hardest_114 rfl rfl (by omega) (by omega) ?_
                                          refine z_iald C0 hP (k := 101) (i := n - 1) (v := ((m_run f ia (-1) (n - 1 + 1)).1)) (rfl : zk 101 = 11) (Nat.lt_of_lt_of_eq (show n - 1 < 10 by omega) (rfl : zl 101 = 10).symm) rfl dX12_hardest_115 ((hrow31 (n - 1) (by omega)).2.1) ?_
                                          refine lv_istore (lv' := [(4, .int ((m_run f ia (-1) (n - 1 + 1)).1)), (3, .int r31), (0, .ref (E.1 92)), (1, .int (nI ia)), (2, .int (0 : Int32))]) hx hb dX12_hardest_116 hl (by decide) rfl (fun ls hl => ?_)
                                          refine lv_iload hx hb dX12_hardest_118 (lv_at hl 0 rfl) ?_
                                          refine lv_if_le (tgt := 125) hx hb dX12_hardest_120 (by decide) (fun c_120_3 => ?_) (fun c_120_3 => ?_)
                                          · skip
                                            have d_120_3 := Int32.not_lt.mpr c_120_3
                                            have e_120_3 := q_hd_m (v := (0 : Int32)) c_87_3 hin c_40_3 (by omega) (by omega) hf
                                            rw [← e_120_3] at d_120_3
                                            refine lv_iinc (v := (-1 : Int32)) (lv' := [(2, .int (-1 : Int32)), (4, .int ((m_run f ia (-1) (n - 1 + 1)).1)), (3, .int r31), (0, .ref (E.1 92)), (1, .int (nI ia))]) hx hb dX12_hardest_125 hl (k := 4) rfl (by decide) (by decide) rfl (fun ls hl => ?_)
                                            refine lv_goto (tgt := 16) hx hb dX12_hardest_128 (by decide) ?_
                                            refine lv_iload_n hx hb dX12_hardest_16 rfl (lv_at hl 0 rfl) ?_
                                            refine lv_if_lt (tgt := 131) hx hb dX12_hardest_17 (by decide) (fun _ => ?_) (fun h_ => absurd (by decide) h_)
                                            refine lv_bipush (v := (-9 : Int32)) hx hb dX12_hardest_131 (by decide) ?_
                                            subst hQ_
                                            exact z_iret C0 hP hS (v := (-9 : Int32)) (by exact zQm_of (k := 0) (by simp [A_hardest, hz_ia, hy_ia, d_120, d_120_1, d_120_2, d_120_3]) (fun k hk => (hF31 k (by omega)).trans ((g1_n (by omega)).trans ((hF30 k (by omega)).trans ((hF23 k (by omega)).trans ((g1_n (by omega)).trans ((hF22 k (by omega)).trans ((hF5 k (by omega)).trans ((g1_n (by omega)).trans ((hF4 k (by omega)).trans ((hF3 k (by omega)).trans ((g1_n (by omega)).trans (hF2 k (by omega))))))))))))) ((hF31 _ (by decide)).trans ((g1_n (by decide)).trans ((hF30 _ (by decide)).trans ((hF23 _ (by decide)).trans ((g1_n (by decide)).trans ((hF22 _ (by decide)).trans ((hF5 _ (by decide)).trans ((g1_n (by decide)).trans ((hF4 _ (by decide)).trans ((hF3 _ (by decide)).trans ((g1_n (by decide)).trans (hF2 _ (by decide)))))))))))))) dX12_hardest_133
                                          · skip
                                            have d_120_3 := Int32.not_le.mp c_120_3
                                            have e_120_3 := q_hd_m (v := (0 : Int32)) c_87_3 hin c_40_3 (by omega) (by omega) hf
                                            rw [← e_120_3] at d_120_3
                                            refine lv_iload_n hx hb dX12_hardest_123 rfl (lv_at hl 4 rfl) ?_
                                            subst hQ_
                                            exact z_iret C0 hP hS (v := (0 : Int32)) (by exact zQm_of (k := 0) (by simp [A_hardest, hz_ia, hy_ia, d_120, d_120_1, d_120_2, d_120_3]) (fun k hk => (hF31 k (by omega)).trans ((g1_n (by omega)).trans ((hF30 k (by omega)).trans ((hF23 k (by omega)).trans ((g1_n (by omega)).trans ((hF22 k (by omega)).trans ((hF5 k (by omega)).trans ((g1_n (by omega)).trans ((hF4 k (by omega)).trans ((hF3 k (by omega)).trans ((g1_n (by omega)).trans (hF2 k (by omega))))))))))))) ((hF31 _ (by decide)).trans ((g1_n (by decide)).trans ((hF30 _ (by decide)).trans ((hF23 _ (by decide)).trans ((g1_n (by decide)).trans ((hF22 _ (by decide)).trans ((hF5 _ (by decide)).trans ((g1_n (by decide)).trans ((hF4 _ (by decide)).trans ((hF3 _ (by decide)).trans ((g1_n (by decide)).trans (hF2 _ (by decide)))))))))))))) dX12_hardest_124
                                        · skip
                                          refine lv_aload_n hx hb dX12_hardest_90 rfl (lv_at hl 1 rfl) ?_
                                          refine z_get C0 hP (C := RX12) (T := TX12) (N := 21) (ci := 10) (index := 9) (k := 92) (ref := "WetSuitPedalsShoesModel") (zk_lt (rfl : zk 92 = 10) (by decide)) (zd_10 E (rfl : zk 92 = 10) _) rfl (zmi inU_12) 0 (by decide) (zm flRX12_9) rfl (v := .ref (E.1 93)) (rfl) dX12_hardest_91 ?_
                                          refine lv_iload_n hx hb dX12_hardest_94 rfl (lv_at hl 2 rfl) ?_
                                          refine lv_iconst (v := (3 : Int32)) hx hb dX12_hardest_95 (by decide) ?_
                                          refine z_Si C0 hP hD hA hS (As := [.int (nI ia), .int (3 : Int32)]) (rest := [.ref (E.1 93)]) (c_X12_athleteAt l E _ ia 3) (va_cwS 2 hts (zgS zbw mlRX12_70 stX12_athleteAt iniRX12 coX12_athleteAt) rfl rfl rfl (by decide +kernel) ⟨Nat.le_of_ble_eq_true rfl, Nat.le_of_ble_eq_true rfl⟩) rfl hl.1 rfl (Nat.le_of_ble_eq_true rfl) dX12_hardest_96 ⟨Nat.zero_le _, Nat.zero_le _⟩ (fun r32 G32 H locs hw32 hP hS => ?_)
                                          obtain ⟨hr32, rfl⟩ := hw32
                                          subst hr32
                                          refine z_eqi (y := (nI (35 + 4 * ia))) (congrArg nI (by omega)) ?_
                                          refine z_iald C0 hP (k := 93) (i := 35 + 4 * ia) (v := (r (35 + 4 * ia))) (rfl : zk 93 = 11) (Nat.lt_of_lt_of_eq (show 35 + 4 * ia < 102 by omega) (rfl : zl 93 = 102).symm) rfl dX12_hardest_99 (congrFun ((hF31 _ (by decide)).trans ((g1_n (by decide)).trans ((hF30 _ (by decide)).trans ((hF23 _ (by decide)).trans ((g1_n (by decide)).trans ((hF22 _ (by decide)).trans ((hF5 _ (by decide)).trans ((g1_n (by decide)).trans ((hF4 _ (by decide)).trans ((hF3 _ (by decide)).trans ((g1_n (by decide)).trans ((hF2 _ (by decide)).trans (hM))))))))))))) _) ?_
                                          refine lv_goto (tgt := 116) hx hb dX12_hardest_100 (by decide) ?_
                                          refine lv_istore (lv' := [(4, .int (r (35 + 4 * ia))), (3, .int r31), (0, .ref (E.1 92)), (1, .int (nI ia)), (2, .int (0 : Int32))]) hx hb dX12_hardest_116 hl (by decide) rfl (fun ls hl => ?_)
                                          refine lv_iload hx hb dX12_hardest_118 (lv_at hl 0 rfl) ?_
                                          refine lv_if_le (tgt := 125) hx hb dX12_hardest_120 (by decide) (fun c_120_3 => ?_) (fun c_120_3 => ?_)
                                          · skip
                                            have d_120_3 := Int32.not_lt.mpr c_120_3
                                            have e_120_3 := q_hd_0 (r := r) (a := ia) (v := (0 : Int32)) c_87_3
                                            rw [← e_120_3] at d_120_3
                                            refine lv_iinc (v := (-1 : Int32)) (lv' := [(2, .int (-1 : Int32)), (4, .int (r (35 + 4 * ia))), (3, .int r31), (0, .ref (E.1 92)), (1, .int (nI ia))]) hx hb dX12_hardest_125 hl (k := 4) rfl (by decide) (by decide) rfl (fun ls hl => ?_)
                                            refine lv_goto (tgt := 16) hx hb dX12_hardest_128 (by decide) ?_
                                            refine lv_iload_n hx hb dX12_hardest_16 rfl (lv_at hl 0 rfl) ?_
                                            refine lv_if_lt (tgt := 131) hx hb dX12_hardest_17 (by decide) (fun _ => ?_) (fun h_ => absurd (by decide) h_)
                                            refine lv_bipush (v := (-9 : Int32)) hx hb dX12_hardest_131 (by decide) ?_
                                            subst hQ_
                                            exact z_iret C0 hP hS (v := (-9 : Int32)) (by exact zQm_of (k := 0) (by simp [A_hardest, hz_ia, hy_ia, d_120, d_120_1, d_120_2, d_120_3]) (fun k hk => (hF31 k (by omega)).trans ((g1_n (by omega)).trans ((hF30 k (by omega)).trans ((hF23 k (by omega)).trans ((g1_n (by omega)).trans ((hF22 k (by omega)).trans ((hF5 k (by omega)).trans ((g1_n (by omega)).trans ((hF4 k (by omega)).trans ((hF3 k (by omega)).trans ((g1_n (by omega)).trans (hF2 k (by omega))))))))))))) ((hF31 _ (by decide)).trans ((g1_n (by decide)).trans ((hF30 _ (by decide)).trans ((hF23 _ (by decide)).trans ((g1_n (by decide)).trans ((hF22 _ (by decide)).trans ((hF5 _ (by decide)).trans ((g1_n (by decide)).trans ((hF4 _ (by decide)).trans ((hF3 _ (by decide)).trans ((g1_n (by decide)).trans (hF2 _ (by decide)))))))))))))) dX12_hardest_133
                                          · skip
                                            have d_120_3 := Int32.not_le.mp c_120_3
                                            have e_120_3 := q_hd_0 (r := r) (a := ia) (v := (0 : Int32)) c_87_3
                                            rw [← e_120_3] at d_120_3
                                            refine lv_iload_n hx hb dX12_hardest_123 rfl (lv_at hl 4 rfl) ?_
                                            subst hQ_
                                            exact z_iret C0 hP hS (v := (0 : Int32)) (by exact zQm_of (k := 0) (by simp [A_hardest, hz_ia, hy_ia, d_120, d_120_1, d_120_2, d_120_3]) (fun k hk => (hF31 k (by omega)).trans ((g1_n (by omega)).trans ((hF30 k (by omega)).trans ((hF23 k (by omega)).trans ((g1_n (by omega)).trans ((hF22 k (by omega)).trans ((hF5 k (by omega)).trans ((g1_n (by omega)).trans ((hF4 k (by omega)).trans ((hF3 k (by omega)).trans ((g1_n (by omega)).trans (hF2 k (by omega))))))))))))) ((hF31 _ (by decide)).trans ((g1_n (by decide)).trans ((hF30 _ (by decide)).trans ((hF23 _ (by decide)).trans ((g1_n (by decide)).trans ((hF22 _ (by decide)).trans ((hF5 _ (by decide)).trans ((g1_n (by decide)).trans ((hF4 _ (by decide)).trans ((hF3 _ (by decide)).trans ((g1_n (by decide)).trans (hF2 _ (by decide)))))))))))))) dX12_hardest_124
                                      · skip
                                        refine lv_aload_n hx hb dX12_hardest_43 rfl (lv_at hl 0 rfl) ?_
                                        refine z_get C0 hP (C := RX12) (T := TX12) (N := 21) (ci := 10) (index := 9) (k := 92) (ref := "WetSuitPedalsShoesModel") (zk_lt (rfl : zk 92 = 10) (by decide)) (zd_10 E (rfl : zk 92 = 10) _) rfl (zmi inU_12) 0 (by decide) (zm flRX12_9) rfl (v := .ref (E.1 93)) (rfl) dX12_hardest_44 ?_
                                        refine lv_iload_n hx hb dX12_hardest_47 rfl (lv_at hl 3 rfl) ?_
                                        refine z_Si C0 hP hD hA hS (As := [.ref (E.1 93), .int (nI i)]) (rest := []) (c_X12_isRide l E _ 93 i z_lit_Arr102_93 (by omega)) (va_cwS 2 hts (zgS zbw mlRX12_73 stX12_isRide iniRX12 coX12_isRide) rfl rfl rfl (by decide +kernel) ⟨Nat.le_of_ble_eq_true rfl, Nat.le_of_ble_eq_true rfl⟩) rfl hl.1 rfl (Nat.le_of_ble_eq_true rfl) dX12_hardest_48 ⟨Nat.zero_le _, Nat.zero_le _⟩ (fun r33 G33 H locs hw33 hP hS => ?_)
                                        obtain ⟨hr33, rfl⟩ := hw33
                                        have hr33 : s_isRide (r (2 + 3 * i)) = _ := (congrArg (fun z_ : Nat → Int32 => s_isRide (z_ (2 + 3 * i))) (show (g1 G30 94 f) 93 = r from (g1_n (by decide)).trans ((hF30 _ (by decide)).trans ((hF23 _ (by decide)).trans ((g1_n (by decide)).trans ((hF22 _ (by decide)).trans ((hF5 _ (by decide)).trans ((g1_n (by decide)).trans ((hF4 _ (by decide)).trans ((hF3 _ (by decide)).trans ((g1_n (by decide)).trans ((hF2 _ (by decide)).trans (hM))))))))))))).symm.trans hr33
                                        subst hr33
                                        refine lv_if_eq (tgt := 65) hx hb dX12_hardest_51 (by decide) (fun c_51 => ?_) (fun c_51 => ?_)
                                        · skip
                                          refine lv_iinc (v := (nI (i + 1))) (lv' := [(3, .int (nI (i + 1))), (0, .ref (E.1 92)), (1, .int (nI ia)), (2, .int (0 : Int32))]) hx hb dX12_hardest_65 hl (k := 3) rfl (z_inc (by decide)) (by decide) rfl (fun ls hl => ?_)
                                          refine lv_goto (tgt := 33) hx hb dX12_hardest_68 (by decide) ?_
                                          exact ih_33 (i + 1) f _ _ _ (by first | assumption | omega) (by intro j hj; rw [s_rd_n (fun q => by rw [c_51] at q; exact absurd q (by decide))]; exact hf j hj) hP hS (lv_sub hl [1, 2, 3, 0] rfl) (by omega)
                                        · skip
                                          refine lv_aload_n hx hb dX12_hardest_54 rfl (lv_at hl 0 rfl) ?_
                                          refine z_get C0 hP (C := RX12) (T := TX12) (N := 21) (ci := 10) (index := 13) (k := 92) (ref := "WetSuitPedalsShoesModel") (zk_lt (rfl : zk 92 = 10) (by decide)) (zd_10 E (rfl : zk 92 = 10) _) rfl (zmi inU_12) 1 (by decide) (zm flRX12_13) rfl (v := .ref (E.1 94)) (rfl) dX12_hardest_55 ?_
                                          refine lv_iload_n hx hb dX12_hardest_58 rfl (lv_at hl 1 rfl) ?_
                                          refine lv_iload_n hx hb dX12_hardest_59 rfl (lv_at hl 3 rfl) ?_
                                          refine z_Si C0 hP hD hA hS (As := [.int (nI ia), .int (nI i)]) (rest := [.ref (E.1 94)]) (c_X12_tried l E _ ia i) (va_cwS 2 hts (zgS zbw mlRX12_91 stX12_tried iniRX12 coX12_tried) rfl rfl rfl (by decide +kernel) ⟨Nat.le_of_ble_eq_true rfl, Nat.le_of_ble_eq_true rfl⟩) rfl hl.1 rfl (Nat.le_of_ble_eq_true rfl) dX12_hardest_60 ⟨Nat.zero_le _, Nat.zero_le _⟩ (fun r34 G34 H locs hw34 hP hS => ?_)
                                          obtain ⟨hr34, rfl⟩ := hw34
                                          subst hr34
                                          refine z_eqi (y := (nI (52 + 10 * ia + i))) (congrArg nI (by omega)) ?_
                                          refine lv_iload_n hx hb dX12_hardest_63 rfl (lv_at hl 2 rfl) ?_
                                          refine z_iast C0 hP hD hS (k := 94) (i := 52 + 10 * ia + i) (v := (0 : Int32)) (F := f) (g1_s _ _ _) (rfl : zk 94 = 11) (Nat.lt_of_lt_of_eq (show 52 + 10 * ia + i < 102 by omega) (rfl : zl 94 = 102).symm) rfl dX12_hardest_64 (fun H locs hP hS => ?_)
                                          have hP := zP_eq (g1_t _ _ _ _ : _ = (g1 G30 94 (upd f (52 + 10 * ia + i) (0 : Int32)))) hP
                                          refine lv_iinc (v := (nI (i + 1))) (lv' := [(3, .int (nI (i + 1))), (0, .ref (E.1 92)), (1, .int (nI ia)), (2, .int (0 : Int32))]) hx hb dX12_hardest_65 hl (k := 3) rfl (z_inc (by decide)) (by decide) rfl (fun ls hl => ?_)
                                          refine lv_goto (tgt := 33) hx hb dX12_hardest_68 (by decide) ?_
                                          exact ih_33 (i + 1) (upd f (52 + 10 * ia + i) (0 : Int32)) _ _ _ (by first | assumption | omega) (by intro j hj; rw [s_rd_y (s_ride_ne c_51)]; exact upd_c hf j hj) hP hS (lv_sub hl [1, 2, 3, 0] rfl) (by omega)
                                  exact cut_33 (_ + 1) 0 (G30 94) _ _ _ (by first | assumption | omega) (by exact (fun j hj => (hcp30 j hj).trans (congrFun ((hF23 _ (by decide)).trans ((g1_n (by decide)).trans ((hF22 _ (by decide)).trans ((hF5 _ (by decide)).trans ((g1_n (by decide)).trans ((hF4 _ (by decide)).trans ((hF3 _ (by decide)).trans ((g1_n (by decide)).trans ((hF2 _ (by decide)).trans (hM)))))))))) j))) (zP_eq ((g1_e G30 94).symm) hP) hS (lv_sub hl [3, 4, 1, 0] rfl) (Nat.lt_succ_self _)
                                · skip
                                  have d_120_2 := Int32.not_le.mp c_120_2
                                  have e_120_2 := q_hd_0 (r := r) (a := ia) (v := (1 : Int32)) c_87_2
                                  rw [← e_120_2] at d_120_2
                                  refine lv_iload_n hx hb dX12_hardest_123 rfl (lv_at hl 4 rfl) ?_
                                  subst hQ_
                                  exact z_iret C0 hP hS (v := (1 : Int32)) (by exact zQm_of (k := 0) (by simp [A_hardest, hz_ia, hy_ia, d_120, d_120_1, d_120_2]) (fun k hk => (hF23 k (by omega)).trans ((g1_n (by omega)).trans ((hF22 k (by omega)).trans ((hF5 k (by omega)).trans ((g1_n (by omega)).trans ((hF4 k (by omega)).trans ((hF3 k (by omega)).trans ((g1_n (by omega)).trans (hF2 k (by omega)))))))))) ((hF23 _ (by decide)).trans ((g1_n (by decide)).trans ((hF22 _ (by decide)).trans ((hF5 _ (by decide)).trans ((g1_n (by decide)).trans ((hF4 _ (by decide)).trans ((hF3 _ (by decide)).trans ((g1_n (by decide)).trans (hF2 _ (by decide))))))))))) dX12_hardest_124
                            · skip
                              refine lv_aload_n hx hb dX12_hardest_43 rfl (lv_at hl 0 rfl) ?_
                              refine z_get C0 hP (C := RX12) (T := TX12) (N := 21) (ci := 10) (index := 9) (k := 92) (ref := "WetSuitPedalsShoesModel") (zk_lt (rfl : zk 92 = 10) (by decide)) (zd_10 E (rfl : zk 92 = 10) _) rfl (zmi inU_12) 0 (by decide) (zm flRX12_9) rfl (v := .ref (E.1 93)) (rfl) dX12_hardest_44 ?_
                              refine lv_iload_n hx hb dX12_hardest_47 rfl (lv_at hl 3 rfl) ?_
                              refine z_Si C0 hP hD hA hS (As := [.ref (E.1 93), .int (nI i)]) (rest := []) (c_X12_isRide l E _ 93 i z_lit_Arr102_93 (by omega)) (va_cwS 2 hts (zgS zbw mlRX12_73 stX12_isRide iniRX12 coX12_isRide) rfl rfl rfl (by decide +kernel) ⟨Nat.le_of_ble_eq_true rfl, Nat.le_of_ble_eq_true rfl⟩) rfl hl.1 rfl (Nat.le_of_ble_eq_true rfl) dX12_hardest_48 ⟨Nat.zero_le _, Nat.zero_le _⟩ (fun r35 G35 H locs hw35 hP hS => ?_)
                              obtain ⟨hr35, rfl⟩ := hw35
                              have hr35 : s_isRide (r (2 + 3 * i)) = _ := (congrArg (fun z_ : Nat → Int32 => s_isRide (z_ (2 + 3 * i))) (show (g1 G22 94 f) 93 = r from (g1_n (by decide)).trans ((hF22 _ (by decide)).trans ((hF5 _ (by decide)).trans ((g1_n (by decide)).trans ((hF4 _ (by decide)).trans ((hF3 _ (by decide)).trans ((g1_n (by decide)).trans ((hF2 _ (by decide)).trans (hM)))))))))).symm.trans hr35
                              subst hr35
                              refine lv_if_eq (tgt := 65) hx hb dX12_hardest_51 (by decide) (fun c_51 => ?_) (fun c_51 => ?_)
                              · skip
                                refine lv_iinc (v := (nI (i + 1))) (lv' := [(3, .int (nI (i + 1))), (0, .ref (E.1 92)), (1, .int (nI ia)), (2, .int (1 : Int32))]) hx hb dX12_hardest_65 hl (k := 3) rfl (z_inc (by decide)) (by decide) rfl (fun ls hl => ?_)
                                refine lv_goto (tgt := 33) hx hb dX12_hardest_68 (by decide) ?_
                                exact ih_33 (i + 1) f _ _ _ (by first | assumption | omega) (by intro j hj; rw [s_rd_n (fun q => by rw [c_51] at q; exact absurd q (by decide))]; exact hf j hj) hP hS (lv_sub hl [1, 2, 3, 0] rfl) (by omega)
                              · skip
                                refine lv_aload_n hx hb dX12_hardest_54 rfl (lv_at hl 0 rfl) ?_
                                refine z_get C0 hP (C := RX12) (T := TX12) (N := 21) (ci := 10) (index := 13) (k := 92) (ref := "WetSuitPedalsShoesModel") (zk_lt (rfl : zk 92 = 10) (by decide)) (zd_10 E (rfl : zk 92 = 10) _) rfl (zmi inU_12) 1 (by decide) (zm flRX12_13) rfl (v := .ref (E.1 94)) (rfl) dX12_hardest_55 ?_
                                refine lv_iload_n hx hb dX12_hardest_58 rfl (lv_at hl 1 rfl) ?_
                                refine lv_iload_n hx hb dX12_hardest_59 rfl (lv_at hl 3 rfl) ?_
                                refine z_Si C0 hP hD hA hS (As := [.int (nI ia), .int (nI i)]) (rest := [.ref (E.1 94)]) (c_X12_tried l E _ ia i) (va_cwS 2 hts (zgS zbw mlRX12_91 stX12_tried iniRX12 coX12_tried) rfl rfl rfl (by decide +kernel) ⟨Nat.le_of_ble_eq_true rfl, Nat.le_of_ble_eq_true rfl⟩) rfl hl.1 rfl (Nat.le_of_ble_eq_true rfl) dX12_hardest_60 ⟨Nat.zero_le _, Nat.zero_le _⟩ (fun r36 G36 H locs hw36 hP hS => ?_)
                                obtain ⟨hr36, rfl⟩ := hw36
                                subst hr36
                                refine z_eqi (y := (nI (52 + 10 * ia + i))) (congrArg nI (by omega)) ?_
                                refine lv_iload_n hx hb dX12_hardest_63 rfl (lv_at hl 2 rfl) ?_
                                refine z_iast C0 hP hD hS (k := 94) (i := 52 + 10 * ia + i) (v := (1 : Int32)) (F := f) (g1_s _ _ _) (rfl : zk 94 = 11) (Nat.lt_of_lt_of_eq (show 52 + 10 * ia + i < 102 by omega) (rfl : zl 94 = 102).symm) rfl dX12_hardest_64 (fun H locs hP hS => ?_)
                                have hP := zP_eq (g1_t _ _ _ _ : _ = (g1 G22 94 (upd f (52 + 10 * ia + i) (1 : Int32)))) hP
                                refine lv_iinc (v := (nI (i + 1))) (lv' := [(3, .int (nI (i + 1))), (0, .ref (E.1 92)), (1, .int (nI ia)), (2, .int (1 : Int32))]) hx hb dX12_hardest_65 hl (k := 3) rfl (z_inc (by decide)) (by decide) rfl (fun ls hl => ?_)
                                refine lv_goto (tgt := 33) hx hb dX12_hardest_68 (by decide) ?_
                                exact ih_33 (i + 1) (upd f (52 + 10 * ia + i) (1 : Int32)) _ _ _ (by first | assumption | omega) (by intro j hj; rw [s_rd_y (s_ride_ne c_51)]; exact upd_c hf j hj) hP hS (lv_sub hl [1, 2, 3, 0] rfl) (by omega)
                        exact cut_33 (_ + 1) 0 (G22 94) _ _ _ (by first | assumption | omega) (by exact (fun j hj => (hcp22 j hj).trans (congrFun ((hF5 _ (by decide)).trans ((g1_n (by decide)).trans ((hF4 _ (by decide)).trans ((hF3 _ (by decide)).trans ((g1_n (by decide)).trans ((hF2 _ (by decide)).trans (hM))))))) j))) (zP_eq ((g1_e G22 94).symm) hP) hS (lv_sub hl [3, 4, 1, 0] rfl) (Nat.lt_succ_self _)
                      · skip
                        have d_120_1 := Int32.not_le.mp c_120_1
                        have e_120_1 := q_hd_0 (r := r) (a := ia) (v := (2 : Int32)) c_87_1
                        rw [← e_120_1] at d_120_1
                        refine lv_iload_n hx hb dX12_hardest_123 rfl (lv_at hl 4 rfl) ?_
                        subst hQ_
                        exact z_iret C0 hP hS (v := (2 : Int32)) (by exact zQm_of (k := 0) (by simp [A_hardest, hz_ia, hy_ia, d_120, d_120_1]) (fun k hk => (hF5 k (by omega)).trans ((g1_n (by omega)).trans ((hF4 k (by omega)).trans ((hF3 k (by omega)).trans ((g1_n (by omega)).trans (hF2 k (by omega))))))) ((hF5 _ (by decide)).trans ((g1_n (by decide)).trans ((hF4 _ (by decide)).trans ((hF3 _ (by decide)).trans ((g1_n (by decide)).trans (hF2 _ (by decide)))))))) dX12_hardest_124
                  · skip
                    refine lv_aload_n hx hb dX12_hardest_43 rfl (lv_at hl 0 rfl) ?_
                    refine z_get C0 hP (C := RX12) (T := TX12) (N := 21) (ci := 10) (index := 9) (k := 92) (ref := "WetSuitPedalsShoesModel") (zk_lt (rfl : zk 92 = 10) (by decide)) (zd_10 E (rfl : zk 92 = 10) _) rfl (zmi inU_12) 0 (by decide) (zm flRX12_9) rfl (v := .ref (E.1 93)) (rfl) dX12_hardest_44 ?_
                    refine lv_iload_n hx hb dX12_hardest_47 rfl (lv_at hl 3 rfl) ?_
                    refine z_Si C0 hP hD hA hS (As := [.ref (E.1 93), .int (nI i)]) (rest := []) (c_X12_isRide l E _ 93 i z_lit_Arr102_93 (by omega)) (va_cwS 2 hts (zgS zbw mlRX12_73 stX12_isRide iniRX12 coX12_isRide) rfl rfl rfl (by decide +kernel) ⟨Nat.le_of_ble_eq_true rfl, Nat.le_of_ble_eq_true rfl⟩) rfl hl.1 rfl (Nat.le_of_ble_eq_true rfl) dX12_hardest_48 ⟨Nat.zero_le _, Nat.zero_le _⟩ (fun r37 G37 H locs hw37 hP hS => ?_)
                    obtain ⟨hr37, rfl⟩ := hw37
                    have hr37 : s_isRide (r (2 + 3 * i)) = _ := (congrArg (fun z_ : Nat → Int32 => s_isRide (z_ (2 + 3 * i))) (show (g1 G4 94 f) 93 = r from (g1_n (by decide)).trans ((hF4 _ (by decide)).trans ((hF3 _ (by decide)).trans ((g1_n (by decide)).trans ((hF2 _ (by decide)).trans (hM))))))).symm.trans hr37
                    subst hr37
                    refine lv_if_eq (tgt := 65) hx hb dX12_hardest_51 (by decide) (fun c_51 => ?_) (fun c_51 => ?_)
                    · skip
                      refine lv_iinc (v := (nI (i + 1))) (lv' := [(3, .int (nI (i + 1))), (0, .ref (E.1 92)), (1, .int (nI ia)), (2, .int (2 : Int32))]) hx hb dX12_hardest_65 hl (k := 3) rfl (z_inc (by decide)) (by decide) rfl (fun ls hl => ?_)
                      refine lv_goto (tgt := 33) hx hb dX12_hardest_68 (by decide) ?_
                      exact ih_33 (i + 1) f _ _ _ (by first | assumption | omega) (by intro j hj; rw [s_rd_n (fun q => by rw [c_51] at q; exact absurd q (by decide))]; exact hf j hj) hP hS (lv_sub hl [1, 2, 3, 0] rfl) (by omega)
                    · skip
                      refine lv_aload_n hx hb dX12_hardest_54 rfl (lv_at hl 0 rfl) ?_
                      refine z_get C0 hP (C := RX12) (T := TX12) (N := 21) (ci := 10) (index := 13) (k := 92) (ref := "WetSuitPedalsShoesModel") (zk_lt (rfl : zk 92 = 10) (by decide)) (zd_10 E (rfl : zk 92 = 10) _) rfl (zmi inU_12) 1 (by decide) (zm flRX12_13) rfl (v := .ref (E.1 94)) (rfl) dX12_hardest_55 ?_
                      refine lv_iload_n hx hb dX12_hardest_58 rfl (lv_at hl 1 rfl) ?_
                      refine lv_iload_n hx hb dX12_hardest_59 rfl (lv_at hl 3 rfl) ?_
                      refine z_Si C0 hP hD hA hS (As := [.int (nI ia), .int (nI i)]) (rest := [.ref (E.1 94)]) (c_X12_tried l E _ ia i) (va_cwS 2 hts (zgS zbw mlRX12_91 stX12_tried iniRX12 coX12_tried) rfl rfl rfl (by decide +kernel) ⟨Nat.le_of_ble_eq_true rfl, Nat.le_of_ble_eq_true rfl⟩) rfl hl.1 rfl (Nat.le_of_ble_eq_true rfl) dX12_hardest_60 ⟨Nat.zero_le _, Nat.zero_le _⟩ (fun r38 G38 H locs hw38 hP hS => ?_)
                      obtain ⟨hr38, rfl⟩ := hw38
                      subst hr38
                      refine z_eqi (y := (nI (52 + 10 * ia + i))) (congrArg nI (by omega)) ?_
                      refine lv_iload_n hx hb dX12_hardest_63 rfl (lv_at hl 2 rfl) ?_
                      refine z_iast C0 hP hD hS (k := 94) (i := 52 + 10 * ia + i) (v := (2 : Int32)) (F := f) (g1_s _ _ _) (rfl : zk 94 = 11) (Nat.lt_of_lt_of_eq (show 52 + 10 * ia + i < 102 by omega) (rfl : zl 94 = 102).symm) rfl dX12_hardest_64 (fun H locs hP hS => ?_)
                      have hP := zP_eq (g1_t _ _ _ _ : _ = (g1 G4 94 (upd f (52 + 10 * ia + i) (2 : Int32)))) hP
                      refine lv_iinc (v := (nI (i + 1))) (lv' := [(3, .int (nI (i + 1))), (0, .ref (E.1 92)), (1, .int (nI ia)), (2, .int (2 : Int32))]) hx hb dX12_hardest_65 hl (k := 3) rfl (z_inc (by decide)) (by decide) rfl (fun ls hl => ?_)
                      refine lv_goto (tgt := 33) hx hb dX12_hardest_68 (by decide) ?_
                      exact ih_33 (i + 1) (upd f (52 + 10 * ia + i) (2 : Int32)) _ _ _ (by first | assumption | omega) (by intro j hj; rw [s_rd_y (s_ride_ne c_51)]; exact upd_c hf j hj) hP hS (lv_sub hl [1, 2, 3, 0] rfl) (by omega)
              exact cut_33 (_ + 1) 0 (G4 94) _ _ _ (by first | assumption | omega) (by exact (fun j hj => (hcp4 j hj).trans (congrFun ((hF3 _ (by decide)).trans ((g1_n (by decide)).trans ((hF2 _ (by decide)).trans (hM)))) j))) (zP_eq ((g1_e G4 94).symm) hP) hS (lv_sub hl [3, 4, 1, 0] rfl) (Nat.lt_succ_self _)
            · skip
              have d_120 := Int32.not_le.mp c_120
              have e_120 := q_hd_m (v := (3 : Int32)) c_87 hin c_40 (by omega) (by omega) hf
              rw [← e_120] at d_120
              refine lv_iload_n hx hb dX12_hardest_123 rfl (lv_at hl 4 rfl) ?_
              subst hQ_
              exact z_iret C0 hP hS (v := (3 : Int32)) (by exact zQm_of (k := 0) (by simp [A_hardest, hz_ia, hy_ia, d_120]) (fun k hk => (hF3 k (by omega)).trans ((g1_n (by omega)).trans (hF2 k (by omega)))) ((hF3 _ (by decide)).trans ((g1_n (by decide)).trans (hF2 _ (by decide))))) dX12_hardest_124
          · skip
            refine lv_aload_n hx hb dX12_hardest_90 rfl (lv_at hl 1 rfl) ?_
            refine z_get C0 hP (C := RX12) (T := TX12) (N := 21) (ci := 10) (index := 9) (k := 92) (ref := "WetSuitPedalsShoesModel") (zk_lt (rfl : zk 92 = 10) (by decide)) (zd_10 E (rfl : zk 92 = 10) _) rfl (zmi inU_12) 0 (by decide) (zm flRX12_9) rfl (v := .ref (E.1 93)) (rfl) dX12_hardest_91 ?_
            refine lv_iload_n hx hb dX12_hardest_94 rfl (lv_at hl 2 rfl) ?_
            refine lv_iconst (v := (3 : Int32)) hx hb dX12_hardest_95 (by decide) ?_
            refine z_Si C0 hP hD hA hS (As := [.int (nI ia), .int (3 : Int32)]) (rest := [.ref (E.1 93)]) (c_X12_athleteAt l E _ ia 3) (va_cwS 2 hts (zgS zbw mlRX12_70 stX12_athleteAt iniRX12 coX12_athleteAt) rfl rfl rfl (by decide +kernel) ⟨Nat.le_of_ble_eq_true rfl, Nat.le_of_ble_eq_true rfl⟩) rfl hl.1 rfl (Nat.le_of_ble_eq_true rfl) dX12_hardest_96 ⟨Nat.zero_le _, Nat.zero_le _⟩ (fun r39 G39 H locs hw39 hP hS => ?_)
            obtain ⟨hr39, rfl⟩ := hw39
            subst hr39
            refine z_eqi (y := (nI (35 + 4 * ia))) (congrArg nI (by omega)) ?_
            refine z_iald C0 hP (k := 93) (i := 35 + 4 * ia) (v := (r (35 + 4 * ia))) (rfl : zk 93 = 11) (Nat.lt_of_lt_of_eq (show 35 + 4 * ia < 102 by omega) (rfl : zl 93 = 102).symm) rfl dX12_hardest_99 (congrFun ((hF3 _ (by decide)).trans ((g1_n (by decide)).trans ((hF2 _ (by decide)).trans (hM)))) _) ?_
            refine lv_goto (tgt := 116) hx hb dX12_hardest_100 (by decide) ?_
            refine lv_istore (lv' := [(4, .int (r (35 + 4 * ia))), (3, .int r3), (0, .ref (E.1 92)), (1, .int (nI ia)), (2, .int (3 : Int32))]) hx hb dX12_hardest_116 hl (by decide) rfl (fun ls hl => ?_)
            refine lv_iload hx hb dX12_hardest_118 (lv_at hl 0 rfl) ?_
            refine lv_if_le (tgt := 125) hx hb dX12_hardest_120 (by decide) (fun c_120 => ?_) (fun c_120 => ?_)
            · skip
              have d_120 := Int32.not_lt.mpr c_120
              have e_120 := q_hd_0 (r := r) (a := ia) (v := (3 : Int32)) c_87
              rw [← e_120] at d_120
              refine lv_iinc (v := (2 : Int32)) (lv' := [(2, .int (2 : Int32)), (4, .int (r (35 + 4 * ia))), (3, .int r3), (0, .ref (E.1 92)), (1, .int (nI ia))]) hx hb dX12_hardest_125 hl (k := 4) rfl (by decide) (by decide) rfl (fun ls hl => ?_)
              refine lv_goto (tgt := 16) hx hb dX12_hardest_128 (by decide) ?_
              refine lv_iload_n hx hb dX12_hardest_16 rfl (lv_at hl 0 rfl) ?_
              refine lv_if_lt (tgt := 131) hx hb dX12_hardest_17 (by decide) (fun h_ => absurd h_ (by decide)) (fun _ => ?_)
              refine lv_aload_n hx hb dX12_hardest_20 rfl (lv_at hl 3 rfl) ?_
              refine z_get C0 hP (C := RX12) (T := TX12) (N := 21) (ci := 10) (index := 9) (k := 92) (ref := "WetSuitPedalsShoesModel") (zk_lt (rfl : zk 92 = 10) (by decide)) (zd_10 E (rfl : zk 92 = 10) _) rfl (zmi inU_12) 0 (by decide) (zm flRX12_9) rfl (v := .ref (E.1 93)) (rfl) dX12_hardest_21 ?_
              refine lv_aload_n hx hb dX12_hardest_24 rfl (lv_at hl 3 rfl) ?_
              refine z_get C0 hP (C := RX12) (T := TX12) (N := 21) (ci := 10) (index := 13) (k := 92) (ref := "WetSuitPedalsShoesModel") (zk_lt (rfl : zk 92 = 10) (by decide)) (zd_10 E (rfl : zk 92 = 10) _) rfl (zmi inU_12) 1 (by decide) (zm flRX12_13) rfl (v := .ref (E.1 94)) (rfl) dX12_hardest_25 ?_
              refine z_Sv C0 hP hD hA hS (As := [.ref (E.1 93), .ref (E.1 94)]) (rest := []) (c_X12_lays l E _ 93 94 z_lit_Arr102_93 z_lit_Arr102_94 (by decide)) (va_cwS 2 hts (zgS zbw mlRX12_149 stX12_lays iniRX12 coX12_lays) rfl rfl rfl (by decide +kernel) ⟨Nat.le_of_ble_eq_true rfl, Nat.le_of_ble_eq_true rfl⟩) rfl hl.1 rfl (Nat.le_of_ble_eq_true rfl) dX12_hardest_28 ⟨Nat.zero_le _, Nat.zero_le _⟩ (fun G40 H locs hw40 hP hS => ?_)
              obtain ⟨hF40, hcp40⟩ := hw40
              refine lv_iconst (v := (0 : Int32)) hx hb dX12_hardest_31 (by decide) ?_
              refine lv_istore_n (lv' := [(3, .int (0 : Int32)), (2, .int (2 : Int32)), (4, .int (r (35 + 4 * ia))), (0, .ref (E.1 92)), (1, .int (nI ia))]) hx hb dX12_hardest_32 rfl hl (by decide) rfl (fun ls hl => ?_)
              have cut_33 : ∀ (fuel : Nat), ∀ (i : Nat) (f : Nat → Int32) (H : Heap) (locs : List Loc) (ls : Array Slot), (i ≤ n) → (∀ j, j < 102 → f j = s_rd r ia (2 : Int32) i j) → zP E (g1 G40 94 f) H → va_S (zA E s_.heap.size) s_.heap H locs → lv_has ls 5 [(0, .ref (E.1 92)), (1, .int (nI ia)), (2, .int (2 : Int32)), (3, .int (nI i))] → n - i < fuel → W p_ l e_ ({ frames := 6, cells := 0, slots := 0, locals := 142 } : Room) s_ m_ a_ b_ me_ c_ H locs 0 0 Q_ (F0 m_ 33 ls []) := by
                intro fuel
                induction fuel with
                | zero =>
                  intro i  f  H locs ls hin hf hP hS hl hfu
                  exact absurd hfu (Nat.not_lt_zero _)
                | succ fuel ih_33 =>
                  intro i  f  H locs ls hin hf hP hS hl hfu_33
                  refine lv_iload_n hx hb dX12_hardest_33 rfl (lv_at hl 3 rfl) ?_
                  refine lv_aload_n hx hb dX12_hardest_34 rfl (lv_at hl 0 rfl) ?_
                  refine z_get C0 hP (C := RX12) (T := TX12) (N := 21) (ci := 10) (index := 9) (k := 92) (ref := "WetSuitPedalsShoesModel") (zk_lt (rfl : zk 92 = 10) (by decide)) (zd_10 E (rfl : zk 92 = 10) _) rfl (zmi inU_12) 0 (by decide) (zm flRX12_9) rfl (v := .ref (E.1 93)) (rfl) dX12_hardest_35 ?_
                  refine lv_iconst (v := (0 : Int32)) hx hb dX12_hardest_38 (by decide) ?_
                  refine z_iald C0 hP (k := 93) (i := 0) (v := (nI n)) (rfl : zk 93 = 11) (Nat.lt_of_lt_of_eq (show 0 < 102 by decide) (rfl : zl 93 = 102).symm) rfl dX12_hardest_39 ((congrFun ((g1_n (by decide)).trans ((hF40 _ (by decide)).trans ((hF3 _ (by decide)).trans ((g1_n (by decide)).trans ((hF2 _ (by decide)).trans (hM)))))) _).trans (hrn)) ?_
                  refine z_N_ge hx hb (a := i) (b := n) (tgt := 71) dX12_hardest_40 rfl rfl (by omega) (by omega) (by decide) (fun c_40_1 => ?_) (fun c_40_1 => ?_)
                  · skip
                    refine lv_aload_n hx hb dX12_hardest_71 rfl (lv_at hl 0 rfl) ?_
                    refine lv_aload_n hx hb dX12_hardest_72 rfl (lv_at hl 0 rfl) ?_
                    refine z_get C0 hP (C := RX12) (T := TX12) (N := 21) (ci := 10) (index := 13) (k := 92) (ref := "WetSuitPedalsShoesModel") (zk_lt (rfl : zk 92 = 10) (by decide)) (zd_10 E (rfl : zk 92 = 10) _) rfl (zmi inU_12) 1 (by decide) (zm flRX12_13) rfl (v := .ref (E.1 94)) (rfl) dX12_hardest_73 ?_
                    refine lv_iload_n hx hb dX12_hardest_76 rfl (lv_at hl 1 rfl) ?_
                    refine z_Vi C0 hP hD hA hS (As := [.ref (E.1 94), .int (nI ia)]) (rest := []) (k := 92) (c_X12_finishOf l E _ 94 ia n z_lit_Arr102_94 (by omega) ((congrFun (g1_s _ _ _) _).trans ((hf 0 (by decide)).trans ((s_rd_o _ 0 (by omega)).trans hrn))) (by omega) (by omega)) (cwV 2 hts (zgV zbw mlRX12_156 imX12_finishOf seX12_finishOf iniRX12 coX12_finishOf) rfl rfl rfl (by decide +kernel) ⟨Nat.le_of_ble_eq_true rfl, Nat.le_of_ble_eq_true rfl⟩) (zk_lt (rfl : zk 92 = 10) (by decide)) (zd_10 E (rfl : zk 92 = 10) _) rfl rfl rfl hl.1 rfl (Nat.le_of_ble_eq_true rfl) dX12_hardest_77 ⟨Nat.zero_le _, Nat.zero_le _⟩ (fun r41 G41 H locs hw41 hP hS => ?_)
                    obtain ⟨hr41, hF41, hrow41⟩ := hw41
                    rw [show (g1 G40 94 f) 94 = f from g1_s _ _ _] at hr41 hrow41
                    refine lv_istore_n (lv' := [(3, .int r41), (0, .ref (E.1 92)), (1, .int (nI ia)), (2, .int (2 : Int32))]) hx hb dX12_hardest_80 rfl hl (by decide) rfl (fun ls hl => ?_)
                    refine lv_aload_n hx hb dX12_hardest_81 rfl (lv_at hl 1 rfl) ?_
                    refine z_get C0 hP (C := RX12) (T := TX12) (N := 21) (ci := 10) (index := 9) (k := 92) (ref := "WetSuitPedalsShoesModel") (zk_lt (rfl : zk 92 = 10) (by decide)) (zd_10 E (rfl : zk 92 = 10) _) rfl (zmi inU_12) 0 (by decide) (zm flRX12_9) rfl (v := .ref (E.1 93)) (rfl) dX12_hardest_82 ?_
                    refine lv_iconst (v := (0 : Int32)) hx hb dX12_hardest_85 (by decide) ?_
                    refine z_iald C0 hP (k := 93) (i := 0) (v := (nI n)) (rfl : zk 93 = 11) (Nat.lt_of_lt_of_eq (show 0 < 102 by decide) (rfl : zl 93 = 102).symm) rfl dX12_hardest_86 ((congrFun ((hF41 _ (by decide)).trans ((g1_n (by decide)).trans ((hF40 _ (by decide)).trans ((hF3 _ (by decide)).trans ((g1_n (by decide)).trans ((hF2 _ (by decide)).trans (hM))))))) _).trans (hrn)) ?_
                    refine z_0_ne hx hb (a := n) (tgt := 103) dX12_hardest_87 rfl (by omega) (by decide) (fun c_87_1 => ?_) (fun c_87_1 => ?_)
                    · skip
                      refine lv_aload_n hx hb dX12_hardest_103 rfl (lv_at hl 1 rfl) ?_
                      refine z_get C0 hP (C := RX12) (T := TX12) (N := 21) (ci := 10) (index := 34) (k := 92) (ref := "WetSuitPedalsShoesModel") (zk_lt (rfl : zk 92 = 10) (by decide)) (zd_10 E (rfl : zk 92 = 10) _) rfl (zmi inU_12) 11 (by decide) (zm flRX12_34) rfl (v := .ref (E.1 101)) (rfl) dX12_hardest_104 ?_
                      refine lv_aload_n hx hb dX12_hardest_107 rfl (lv_at hl 1 rfl) ?_
                      refine z_get C0 hP (C := RX12) (T := TX12) (N := 21) (ci := 10) (index := 9) (k := 92) (ref := "WetSuitPedalsShoesModel") (zk_lt (rfl : zk 92 = 10) (by decide)) (zd_10 E (rfl : zk 92 = 10) _) rfl (zmi inU_12) 0 (by decide) (zm flRX12_9) rfl (v := .ref (E.1 93)) (rfl) dX12_hardest_108 ?_
                      refine lv_iconst (v := (0 : Int32)) hx hb dX12_hardest_111 (by decide) ?_
                      refine z_iald C0 hP (k := 93) (i := 0) (v := (nI n)) (rfl : zk 93 = 11) (Nat.lt_of_lt_of_eq (show 0 < 102 by decide) (rfl : zl 93 = 102).symm) rfl dX12_hardest_112 ((congrFun ((hF41 _ (by decide)).trans ((g1_n (by decide)).trans ((hF40 _ (by decide)).trans ((hF3 _ (by decide)).trans ((g1_n (by decide)).trans ((hF2 _ (by decide)).trans (hM))))))) _).trans (hrn)) ?_
                      refine lv_iconst (v := (1 : Int32)) hx hb dX12_hardest_113 (by decide) ?_
                      refine z_isub hx hb (a := n) (b := 1) (n := n - 1) dX12_hardest_114 rfl rfl (by omega) (by omega) ?_
                      refine z_iald C0 hP (k := 101) (i := n - 1) (v := ((m_run f ia (-1) (n - 1 + 1)).1)) (rfl : zk 101 = 11) (Nat.lt_of_lt_of_eq (show n - 1 < 10 by omega) (rfl : zl 101 = 10).symm) rfl dX12_hardest_115 ((hrow41 (n - 1) (by omega)).2.1) ?_
                      refine lv_istore (lv' := [(4, .int ((m_run f ia (-1) (n - 1 + 1)).1)), (3, .int r41), (0, .ref (E.1 92)), (1, .int (nI ia)), (2, .int (2 : Int32))]) hx hb dX12_hardest_116 hl (by decide) rfl (fun ls hl => ?_)
                      refine lv_iload hx hb dX12_hardest_118 (lv_at hl 0 rfl) ?_
                      refine lv_if_le (tgt := 125) hx hb dX12_hardest_120 (by decide) (fun c_120_1 => ?_) (fun c_120_1 => ?_)
                      · skip
                        have d_120_1 := Int32.not_lt.mpr c_120_1
                        have e_120_1 := q_hd_m (v := (2 : Int32)) c_87_1 hin c_40_1 (by omega) (by omega) hf
                        rw [← e_120_1] at d_120_1
                        refine lv_iinc (v := (1 : Int32)) (lv' := [(2, .int (1 : Int32)), (4, .int ((m_run f ia (-1) (n - 1 + 1)).1)), (3, .int r41), (0, .ref (E.1 92)), (1, .int (nI ia))]) hx hb dX12_hardest_125 hl (k := 4) rfl (by decide) (by decide) rfl (fun ls hl => ?_)
                        refine lv_goto (tgt := 16) hx hb dX12_hardest_128 (by decide) ?_
                        refine lv_iload_n hx hb dX12_hardest_16 rfl (lv_at hl 0 rfl) ?_
                        refine lv_if_lt (tgt := 131) hx hb dX12_hardest_17 (by decide) (fun h_ => absurd h_ (by decide)) (fun _ => ?_)
                        refine lv_aload_n hx hb dX12_hardest_20 rfl (lv_at hl 3 rfl) ?_
                        refine z_get C0 hP (C := RX12) (T := TX12) (N := 21) (ci := 10) (index := 9) (k := 92) (ref := "WetSuitPedalsShoesModel") (zk_lt (rfl : zk 92 = 10) (by decide)) (zd_10 E (rfl : zk 92 = 10) _) rfl (zmi inU_12) 0 (by decide) (zm flRX12_9) rfl (v := .ref (E.1 93)) (rfl) dX12_hardest_21 ?_
                        refine lv_aload_n hx hb dX12_hardest_24 rfl (lv_at hl 3 rfl) ?_
                        refine z_get C0 hP (C := RX12) (T := TX12) (N := 21) (ci := 10) (index := 13) (k := 92) (ref := "WetSuitPedalsShoesModel") (zk_lt (rfl : zk 92 = 10) (by decide)) (zd_10 E (rfl : zk 92 = 10) _) rfl (zmi inU_12) 1 (by decide) (zm flRX12_13) rfl (v := .ref (E.1 94)) (rfl) dX12_hardest_25 ?_
                        refine z_Sv C0 hP hD hA hS (As := [.ref (E.1 93), .ref (E.1 94)]) (rest := []) (c_X12_lays l E _ 93 94 z_lit_Arr102_93 z_lit_Arr102_94 (by decide)) (va_cwS 2 hts (zgS zbw mlRX12_149 stX12_lays iniRX12 coX12_lays) rfl rfl rfl (by decide +kernel) ⟨Nat.le_of_ble_eq_true rfl, Nat.le_of_ble_eq_true rfl⟩) rfl hl.1 rfl (Nat.le_of_ble_eq_true rfl) dX12_hardest_28 ⟨Nat.zero_le _, Nat.zero_le _⟩ (fun G42 H locs hw42 hP hS => ?_)
                        obtain ⟨hF42, hcp42⟩ := hw42
                        refine lv_iconst (v := (0 : Int32)) hx hb dX12_hardest_31 (by decide) ?_
                        refine lv_istore_n (lv' := [(3, .int (0 : Int32)), (2, .int (1 : Int32)), (4, .int ((m_run f ia (-1) (n - 1 + 1)).1)), (0, .ref (E.1 92)), (1, .int (nI ia))]) hx hb dX12_hardest_32 rfl hl (by decide) rfl (fun ls hl => ?_)
                        have cut_33 : ∀ (fuel : Nat), ∀ (i : Nat) (f : Nat → Int32) (H : Heap) (locs : List Loc) (ls : Array Slot), (i ≤ n) → (∀ j, j < 102 → f j = s_rd r ia (1 : Int32) i j) → zP E (g1 G42 94 f) H → va_S (zA E s_.heap.size) s_.heap H locs → lv_has ls 5 [(0, .ref (E.1 92)), (1, .int (nI ia)), (2, .int (1 : Int32)), (3, .int (nI i))] → n - i < fuel → W p_ l e_ ({ frames := 6, cells := 0, slots := 0, locals := 142 } : Room) s_ m_ a_ b_ me_ c_ H locs 0 0 Q_ (F0 m_ 33 ls []) := by
                          intro fuel
                          induction fuel with
                          | zero =>
                            intro i  f  H locs ls hin hf hP hS hl hfu
                            exact absurd hfu (Nat.not_lt_zero _)
                          | succ fuel ih_33 =>
                            intro i  f  H locs ls hin hf hP hS hl hfu_33
                            refine lv_iload_n hx hb dX12_hardest_33 rfl (lv_at hl 3 rfl) ?_
                            refine lv_aload_n hx hb dX12_hardest_34 rfl (lv_at hl 0 rfl) ?_
                            refine z_get C0 hP (C := RX12) (T := TX12) (N := 21) (ci := 10) (index := 9) (k := 92) (ref := "WetSuitPedalsShoesModel") (zk_lt (rfl : zk 92 = 10) (by decide)) (zd_10 E (rfl : zk 92 = 10) _) rfl (zmi inU_12) 0 (by decide) (zm flRX12_9) rfl (v := .ref (E.1 93)) (rfl) dX12_hardest_35 ?_
                            refine lv_iconst (v := (0 : Int32)) hx hb dX12_hardest_38 (by decide) ?_
                            refine z_iald C0 hP (k := 93) (i := 0) (v := (nI n)) (rfl : zk 93 = 11) (Nat.lt_of_lt_of_eq (show 0 < 102 by decide) (rfl : zl 93 = 102).symm) rfl dX12_hardest_39 ((congrFun ((g1_n (by decide)).trans ((hF42 _ (by decide)).trans ((hF41 _ (by decide)).trans ((g1_n (by decide)).trans ((hF40 _ (by decide)).trans ((hF3 _ (by decide)).trans ((g1_n (by decide)).trans ((hF2 _ (by decide)).trans (hM))))))))) _).trans (hrn)) ?_
                            refine z_N_ge hx hb (a := i) (b := n) (tgt := 71) dX12_hardest_40 rfl rfl (by omega) (by omega) (by decide) (fun c_40_2 => ?_) (fun c_40_2 => ?_)
                            · skip
                              refine lv_aload_n hx hb dX12_hardest_71 rfl (lv_at hl 0 rfl) ?_
                              refine lv_aload_n hx hb dX12_hardest_72 rfl (lv_at hl 0 rfl) ?_
                              refine z_get C0 hP (C := RX12) (T := TX12) (N := 21) (ci := 10) (index := 13) (k := 92) (ref := "WetSuitPedalsShoesModel") (zk_lt (rfl : zk 92 = 10) (by decide)) (zd_10 E (rfl : zk 92 = 10) _) rfl (zmi inU_12) 1 (by decide) (zm flRX12_13) rfl (v := .ref (E.1 94)) (rfl) dX12_hardest_73 ?_
                              refine lv_iload_n hx hb dX12_hardest_76 rfl (lv_at hl 1 rfl) ?_
                              refine z_Vi C0 hP hD hA hS (As := [.ref (E.1 94), .int (nI ia)]) (rest := []) (k := 92) (c_X12_finishOf l E _ 94 ia n z_lit_Arr102_94 (by omega) ((congrFun (g1_s _ _ _) _).trans ((hf 0 (by decide)).trans ((s_rd_o _ 0 (by omega)).trans hrn))) (by omega) (by omega)) (cwV 2 hts (zgV zbw mlRX12_156 imX12_finishOf seX12_finishOf iniRX12 coX12_finishOf) rfl rfl rfl (by decide +kernel) ⟨Nat.le_of_ble_eq_true rfl, Nat.le_of_ble_eq_true rfl⟩) (zk_lt (rfl : zk 92 = 10) (by decide)) (zd_10 E (rfl : zk 92 = 10) _) rfl rfl rfl hl.1 rfl (Nat.le_of_ble_eq_true rfl) dX12_hardest_77 ⟨Nat.zero_le _, Nat.zero_le _⟩ (fun r43 G43 H locs hw43 hP hS => ?_)
                              obtain ⟨hr43, hF43, hrow43⟩ := hw43
                              rw [show (g1 G42 94 f) 94 = f from g1_s _ _ _] at hr43 hrow43
                              refine lv_istore_n (lv' := [(3, .int r43), (0, .ref (E.1 92)), (1, .int (nI ia)), (2, .int (1 : Int32))]) hx hb dX12_hardest_80 rfl hl (by decide) rfl (fun ls hl => ?_)
                              refine lv_aload_n hx hb dX12_hardest_81 rfl (lv_at hl 1 rfl) ?_
                              refine z_get C0 hP (C := RX12) (T := TX12) (N := 21) (ci := 10) (index := 9) (k := 92) (ref := "WetSuitPedalsShoesModel") (zk_lt (rfl : zk 92 = 10) (by decide)) (zd_10 E (rfl : zk 92 = 10) _) rfl (zmi inU_12) 0 (by decide) (zm flRX12_9) rfl (v := .ref (E.1 93)) (rfl) dX12_hardest_82 ?_
                              refine lv_iconst (v := (0 : Int32)) hx hb dX12_hardest_85 (by decide) ?_
                              refine z_iald C0 hP (k := 93) (i := 0) (v := (nI n)) (rfl : zk 93 = 11) (Nat.lt_of_lt_of_eq (show 0 < 102 by decide) (rfl : zl 93 = 102).symm) rfl dX12_hardest_86 ((congrFun ((hF43 _ (by decide)).trans ((g1_n (by decide)).trans ((hF42 _ (by decide)).trans ((hF41 _ (by decide)).trans ((g1_n (by decide)).trans ((hF40 _ (by decide)).trans ((hF3 _ (by decide)).trans ((g1_n (by decide)).trans ((hF2 _ (by decide)).trans (hM)))))))))) _).trans (hrn)) ?_
                              refine z_0_ne hx hb (a := n) (tgt := 103) dX12_hardest_87 rfl (by omega) (by decide) (fun c_87_2 => ?_) (fun c_87_2 => ?_)
                              · skip
                                refine lv_aload_n hx hb dX12_hardest_103 rfl (lv_at hl 1 rfl) ?_
                                refine z_get C0 hP (C := RX12) (T := TX12) (N := 21) (ci := 10) (index := 34) (k := 92) (ref := "WetSuitPedalsShoesModel") (zk_lt (rfl : zk 92 = 10) (by decide)) (zd_10 E (rfl : zk 92 = 10) _) rfl (zmi inU_12) 11 (by decide) (zm flRX12_34) rfl (v := .ref (E.1 101)) (rfl) dX12_hardest_104 ?_
                                refine lv_aload_n hx hb dX12_hardest_107 rfl (lv_at hl 1 rfl) ?_
                                refine z_get C0 hP (C := RX12) (T := TX12) (N := 21) (ci := 10) (index := 9) (k := 92) (ref := "WetSuitPedalsShoesModel") (zk_lt (rfl : zk 92 = 10) (by decide)) (zd_10 E (rfl : zk 92 = 10) _) rfl (zmi inU_12) 0 (by decide) (zm flRX12_9) rfl (v := .ref (E.1 93)) (rfl) dX12_hardest_108 ?_
                                refine lv_iconst (v := (0 : Int32)) hx hb dX12_hardest_111 (by decide) ?_
                                refine z_iald C0 hP (k := 93) (i := 0) (v := (nI n)) (rfl : zk 93 = 11) (Nat.lt_of_lt_of_eq (show 0 < 102 by decide) (rfl : zl 93 = 102).symm) rfl dX12_hardest_112 ((congrFun ((hF43 _ (by decide)).trans ((g1_n (by decide)).trans ((hF42 _ (by decide)).trans ((hF41 _ (by decide)).trans ((g1_n (by decide)).trans ((hF40 _ (by decide)).trans ((hF3 _ (by decide)).trans ((g1_n (by decide)).trans ((hF2 _ (by decide)).trans (hM)))))))))) _).trans (hrn)) ?_
                                refine lv_iconst (v := (1 : Int32)) hx hb dX12_hardest_113 (by decide) ?_
                                refine z_isub hx hb (a := n) (b := 1) (n := n - 1) dX12_hardest_114 rfl rfl (by omega) (by omega) ?_
                                refine z_iald C0 hP (k := 101) (i := n - 1) (v := ((m_run f ia (-1) (n - 1 + 1)).1)) (rfl : zk 101 = 11) (Nat.lt_of_lt_of_eq (show n - 1 < 10 by omega) (rfl : zl 101 = 10).symm) rfl dX12_hardest_115 ((hrow43 (n - 1) (by omega)).2.1) ?_
                                refine lv_istore (lv' := [(4, .int ((m_run f ia (-1) (n - 1 + 1)).1)), (3, .int r43), (0, .ref (E.1 92)), (1, .int (nI ia)), (2, .int (1 : Int32))]) hx hb dX12_hardest_116 hl (by decide) rfl (fun ls hl => ?_)
                                refine lv_iload hx hb dX12_hardest_118 (lv_at hl 0 rfl) ?_
                                refine lv_if_le (tgt := 125) hx hb dX12_hardest_120 (by decide) (fun c_120_2 => ?_) (fun c_120_2 => ?_)
                                · skip
                                  have d_120_2 := Int32.not_lt.mpr c_120_2
                                  have e_120_2 := q_hd_m (v := (1 : Int32)) c_87_2 hin c_40_2 (by omega) (by omega) hf
                                  rw [← e_120_2] at d_120_2
                                  refine lv_iinc (v := (0 : Int32)) (lv' := [(2, .int (0 : Int32)), (4, .int ((m_run f ia (-1) (n - 1 + 1)).1)), (3, .int r43), (0, .ref (E.1 92)), (1, .int (nI ia))]) hx hb dX12_hardest_125 hl (k := 4) rfl (by decide) (by decide) rfl (fun ls hl => ?_)
                                  refine lv_goto (tgt := 16) hx hb dX12_hardest_128 (by decide) ?_
                                  refine lv_iload_n hx hb dX12_hardest_16 rfl (lv_at hl 0 rfl) ?_
                                  refine lv_if_lt (tgt := 131) hx hb dX12_hardest_17 (by decide) (fun h_ => absurd h_ (by decide)) (fun _ => ?_)
                                  refine lv_aload_n hx hb dX12_hardest_20 rfl (lv_at hl 3 rfl) ?_
                                  refine z_get C0 hP (C := RX12) (T := TX12) (N := 21) (ci := 10) (index := 9) (k := 92) (ref := "WetSuitPedalsShoesModel") (zk_lt (rfl : zk 92 = 10) (by decide)) (zd_10 E (rfl : zk 92 = 10) _) rfl (zmi inU_12) 0 (by decide) (zm flRX12_9) rfl (v := .ref (E.1 93)) (rfl) dX12_hardest_21 ?_
                                  refine lv_aload_n hx hb dX12_hardest_24 rfl (lv_at hl 3 rfl) ?_
                                  refine z_get C0 hP (C := RX12) (T := TX12) (N := 21) (ci := 10) (index := 13) (k := 92) (ref := "WetSuitPedalsShoesModel") (zk_lt (rfl : zk 92 = 10) (by decide)) (zd_10 E (rfl : zk 92 = 10) _) rfl (zmi inU_12) 1 (by decide) (zm flRX12_13) rfl (v := .ref (E.1 94)) (rfl) dX12_hardest_25 ?_
                                  refine z_Sv C0 hP hD hA hS (As := [.ref (E.1 93), .ref (E.1 94)]) (rest := []) (c_X12_lays l E _ 93 94 z_lit_Arr102_93 z_lit_Arr102_94 (by decide)) (va_cwS 2 hts (zgS zbw mlRX12_149 stX12_lays iniRX12 coX12_lays) rfl rfl rfl (by decide +kernel) ⟨Nat.le_of_ble_eq_true rfl, Nat.le_of_ble_eq_true rfl⟩) rfl hl.1 rfl (Nat.le_of_ble_eq_true rfl) dX12_hardest_28 ⟨Nat.zero_le _, Nat.zero_le _⟩ (fun G44 H locs hw44 hP hS => ?_)
                                  obtain ⟨hF44, hcp44⟩ := hw44
                                  refine lv_iconst (v := (0 : Int32)) hx hb dX12_hardest_31 (by decide) ?_
                                  refine lv_istore_n (lv' := [(3, .int (0 : Int32)), (2, .int (0 : Int32)), (4, .int ((m_run f ia (-1) (n - 1 + 1)).1)), (0, .ref (E.1 92)), (1, .int (nI ia))]) hx hb dX12_hardest_32 rfl hl (by decide) rfl (fun ls hl => ?_)
                                  have cut_33 : ∀ (fuel : Nat), ∀ (i : Nat) (f : Nat → Int32) (H : Heap) (locs : List Loc) (ls : Array Slot), (i ≤ n) → (∀ j, j < 102 → f j = s_rd r ia (0 : Int32) i j) → zP E (g1 G44 94 f) H → va_S (zA E s_.heap.size) s_.heap H locs → lv_has ls 5 [(0, .ref (E.1 92)), (1, .int (nI ia)), (2, .int (0 : Int32)), (3, .int (nI i))] → n - i < fuel → W p_ l e_ ({ frames := 6, cells := 0, slots := 0, locals := 142 } : Room) s_ m_ a_ b_ me_ c_ H locs 0 0 Q_ (F0 m_ 33 ls []) := by
                                    intro fuel
                                    induction fuel with
                                    | zero =>
                                      intro i  f  H locs ls hin hf hP hS hl hfu
                                      exact absurd hfu (Nat.not_lt_zero _)
                                    | succ fuel ih_33 =>
                                      intro i  f  H locs ls hin hf hP hS hl hfu_33
                                      refine lv_iload_n hx hb dX12_hardest_33 rfl (lv_at hl 3 rfl) ?_
                                      refine lv_aload_n hx hb dX12_hardest_34 rfl (lv_at hl 0 rfl) ?_
                                      refine z_get C0 hP (C := RX12) (T := TX12) (N := 21) (ci := 10) (index := 9) (k := 92) (ref := "WetSuitPedalsShoesModel") (zk_lt (rfl : zk 92 = 10) (by decide)) (zd_10 E (rfl : zk 92 = 10) _) rfl (zmi inU_12) 0 (by decide) (zm flRX12_9) rfl (v := .ref (E.1 93)) (rfl) dX12_hardest_35 ?_
                                      refine lv_iconst (v := (0 : Int32)) hx hb dX12_hardest_38 (by decide) ?_
                                      refine z_iald C0 hP (k := 93) (i := 0) (v := (nI n)) (rfl : zk 93 = 11) (Nat.lt_of_lt_of_eq (show 0 < 102 by decide) (rfl : zl 93 = 102).symm) rfl dX12_hardest_39 ((congrFun ((g1_n (by decide)).trans ((hF44 _ (by decide)).trans ((hF43 _ (by decide)).trans ((g1_n (by decide)).trans ((hF42 _ (by decide)).trans ((hF41 _ (by decide)).trans ((g1_n (by decide)).trans ((hF40 _ (by decide)).trans ((hF3 _ (by decide)).trans ((g1_n (by decide)).trans ((hF2 _ (by decide)).trans (hM)))))))))))) _).trans (hrn)) ?_
                                      refine z_N_ge hx hb (a := i) (b := n) (tgt := 71) dX12_hardest_40 rfl rfl (by omega) (by omega) (by decide) (fun c_40_3 => ?_) (fun c_40_3 => ?_)
                                      · skip
                                        refine lv_aload_n hx hb dX12_hardest_71 rfl (lv_at hl 0 rfl) ?_
                                        refine lv_aload_n hx hb dX12_hardest_72 rfl (lv_at hl 0 rfl) ?_
                                        refine z_get C0 hP (C := RX12) (T := TX12) (N := 21) (ci := 10) (index := 13) (k := 92) (ref := "WetSuitPedalsShoesModel") (zk_lt (rfl : zk 92 = 10) (by decide)) (zd_10 E (rfl : zk 92 = 10) _) rfl (zmi inU_12) 1 (by decide) (zm flRX12_13) rfl (v := .ref (E.1 94)) (rfl) dX12_hardest_73 ?_
                                        refine lv_iload_n hx hb dX12_hardest_76 rfl (lv_at hl 1 rfl) ?_
                                        refine z_Vi C0 hP hD hA hS (As := [.ref (E.1 94), .int (nI ia)]) (rest := []) (k := 92) (c_X12_finishOf l E _ 94 ia n z_lit_Arr102_94 (by omega) ((congrFun (g1_s _ _ _) _).trans ((hf 0 (by decide)).trans ((s_rd_o _ 0 (by omega)).trans hrn))) (by omega) (by omega)) (cwV 2 hts (zgV zbw mlRX12_156 imX12_finishOf seX12_finishOf iniRX12 coX12_finishOf) rfl rfl rfl (by decide +kernel) ⟨Nat.le_of_ble_eq_true rfl, Nat.le_of_ble_eq_true rfl⟩) (zk_lt (rfl : zk 92 = 10) (by decide)) (zd_10 E (rfl : zk 92 = 10) _) rfl rfl rfl hl.1 rfl (Nat.le_of_ble_eq_true rfl) dX12_hardest_77 ⟨Nat.zero_le _, Nat.zero_le _⟩ (fun r45 G45 H locs hw45 hP hS => ?_)
                                        obtain ⟨hr45, hF45, hrow45⟩ := hw45
                                        rw [show (g1 G44 94 f) 94 = f from g1_s _ _ _] at hr45 hrow45
                                        refine lv_istore_n (lv' := [(3, .int r45), (0, .ref (E.1 92)), (1, .int (nI ia)), (2, .int (0 : Int32))]) hx hb dX12_hardest_80 rfl hl (by decide) rfl (fun ls hl => ?_)
                                        refine lv_aload_n hx hb dX12_hardest_81 rfl (lv_at hl 1 rfl) ?_
                                        refine z_get C0 hP (C := RX12) (T := TX12) (N := 21) (ci := 10) (index := 9) (k := 92) (ref := "WetSuitPedalsShoesModel") (zk_lt (rfl : zk 92 = 10) (by decide)) (zd_10 E (rfl : zk 92 = 10) _) rfl (zmi inU_12) 0 (by decide) (zm flRX12_9) rfl (v := .ref (E.1 93)) (rfl) dX12_hardest_82 ?_
                                        refine lv_iconst (v := (0 : Int32)) hx hb dX12_hardest_85 (by decide) ?_
                                        refine z_iald C0 hP (k := 93) (i := 0) (v := (nI n)) (rfl : zk 93 = 11) (Nat.lt_of_lt_of_eq (show 0 < 102 by decide) (rfl : zl 93 = 102).symm) rfl dX12_hardest_86 ((congrFun ((hF45 _ (by decide)).trans ((g1_n (by decide)).trans ((hF44 _ (by decide)).trans ((hF43 _ (by decide)).trans ((g1_n (by decide)).trans ((hF42 _ (by decide)).trans ((hF41 _ (by decide)).trans ((g1_n (by decide)).trans ((hF40 _ (by decide)).trans ((hF3 _ (by decide)).trans ((g1_n (by decide)).trans ((hF2 _ (by decide)).trans (hM))))))))))))) _).trans (hrn)) ?_
                                        refine z_0_ne hx hb (a := n) (tgt := 103) dX12_hardest_87 rfl (by omega) (by decide) (fun c_87_3 => ?_) (fun c_87_3 => ?_)
                                        · skip
                                          refine lv_aload_n hx hb dX12_hardest_103 rfl (lv_at hl 1 rfl) ?_
                                          refine z_get C0 hP (C := RX12) (T := TX12) (N := 21) (ci := 10) (index := 34) (k := 92) (ref := "WetSuitPedalsShoesModel") (zk_lt (rfl : zk 92 = 10) (by decide)) (zd_10 E (rfl : zk 92 = 10) _) rfl (zmi inU_12) 11 (by decide) (zm flRX12_34) rfl (v := .ref (E.1 101)) (rfl) dX12_hardest_104 ?_
                                          refine lv_aload_n hx hb dX12_hardest_107 rfl (lv_at hl 1 rfl) ?_
                                          refine z_get C0 hP (C := RX12) (T := TX12) (N := 21) (ci := 10) (index := 9) (k := 92) (ref := "WetSuitPedalsShoesModel") (zk_lt (rfl : zk 92 = 10) (by decide)) (zd_10 E (rfl : zk 92 = 10) _) rfl (zmi inU_12) 0 (by decide) (zm flRX12_9) rfl (v := .ref (E.1 93)) (rfl) dX12_hardest_108 ?_
                                          refine lv_iconst (v := (0 : Int32)) hx hb dX12_hardest_111 (by decide) ?_
                                          refine z_iald C0 hP (k := 93) (i := 0) (v := (nI n)) (rfl : zk 93 = 11) (Nat.lt_of_lt_of_eq (show 0 < 102 by decide) (rfl : zl 93 = 102).symm) rfl dX12_hardest_112 ((congrFun ((hF45 _ (by decide)).trans ((g1_n (by decide)).trans ((hF44 _ (by decide)).trans ((hF43 _ (by decide)).trans ((g1_n (by decide)).trans ((hF42 _ (by decide)).trans ((hF41 _ (by decide)).trans ((g1_n (by decide)).trans ((hF40 _ (by decide)).trans ((hF3 _ (by decide)).trans ((g1_n (by decide)).trans ((hF2 _ (by decide)).trans (hM))))))))))))) _).trans (hrn)) ?_
                                          refine lv_iconst (v := (1 : Int32)) hx hb dX12_hardest_113 (by decide) ?_
                                          refine z_isub hx hb (a := n) (b := 1) (n := n - 1) dX12_hardest_114 rfl rfl (by omega) (by omega) ?_
                                          refine z_iald C0 hP (k := 101) (i := n - 1) (v := ((m_run f ia (-1) (n - 1 + 1)).1)) (rfl : zk 101 = 11) (Nat.lt_of_lt_of_eq (show n - 1 < 10 by omega) (rfl : zl 101 = 10).symm) rfl dX12_hardest_115 ((hrow45 (n - 1) (by omega)).2.1) ?_
                                          refine lv_istore (lv' := [(4, .int ((m_run f ia (-1) (n - 1 + 1)).1)), (3, .int r45), (0, .ref (E.1 92)), (1, .int (nI ia)), (2, .int (0 : Int32))]) hx hb dX12_hardest_116 hl (by decide) rfl (fun ls hl => ?_)
                                          refine lv_iload hx hb dX12_hardest_118 (lv_at hl 0 rfl) ?_
                                          refine lv_if_le (tgt := 125) hx hb dX12_hardest_120 (by decide) (fun c_120_3 => ?_) (fun c_120_3 => ?_)
                                          · skip
                                            have d_120_3 := Int32.not_lt.mpr c_120_3
                                            have e_120_3 := q_hd_m (v := (0 : Int32)) c_87_3 hin c_40_3 (by omega) (by omega) hf
                                            rw [← e_120_3] at d_120_3
                                            refine lv_iinc (v := (-1 : Int32)) (lv' := [(2, .int (-1 : Int32)), (4, .int ((m_run f ia (-1) (n - 1 + 1)).1)), (3, .int r45), (0, .ref (E.1 92)), (1, .int (nI ia))]) hx hb dX12_hardest_125 hl (k := 4) rfl (by decide) (by decide) rfl (fun ls hl => ?_)
                                            refine lv_goto (tgt := 16) hx hb dX12_hardest_128 (by decide) ?_
                                            refine lv_iload_n hx hb dX12_hardest_16 rfl (lv_at hl 0 rfl) ?_
                                            refine lv_if_lt (tgt := 131) hx hb dX12_hardest_17 (by decide) (fun _ => ?_) (fun h_ => absurd (by decide) h_)
                                            refine lv_bipush (v := (-9 : Int32)) hx hb dX12_hardest_131 (by decide) ?_
                                            subst hQ_
                                            exact z_iret C0 hP hS (v := (-9 : Int32)) (by exact zQm_of (k := 0) (by simp [A_hardest, hz_ia, hy_ia, d_120, d_120_1, d_120_2, d_120_3]) (fun k hk => (hF45 k (by omega)).trans ((g1_n (by omega)).trans ((hF44 k (by omega)).trans ((hF43 k (by omega)).trans ((g1_n (by omega)).trans ((hF42 k (by omega)).trans ((hF41 k (by omega)).trans ((g1_n (by omega)).trans ((hF40 k (by omega)).trans ((hF3 k (by omega)).trans ((g1_n (by omega)).trans (hF2 k (by omega))))))))))))) ((hF45 _ (by decide)).trans ((g1_n (by decide)).trans ((hF44 _ (by decide)).trans ((hF43 _ (by decide)).trans ((g1_n (by decide)).trans ((hF42 _ (by decide)).trans ((hF41 _ (by decide)).trans ((g1_n (by decide)).trans ((hF40 _ (by decide)).trans ((hF3 _ (by decide)).trans ((g1_n (by decide)).trans (hF2 _ (by decide)))))))))))))) dX12_hardest_133
                                          · skip
                                            have d_120_3 := Int32.not_le.mp c_120_3
                                            have e_120_3 := q_hd_m (v := (0 : Int32)) c_87_3 hin c_40_3 (by omega) (by omega) hf
                                            rw [← e_120_3] at d_120_3
                                            refine lv_iload_n hx hb dX12_hardest_123 rfl (lv_at hl 4 rfl) ?_
                                            subst hQ_
                                            exact z_iret C0 hP hS (v := (0 : Int32)) (by exact zQm_of (k := 0) (by simp [A_hardest, hz_ia, hy_ia, d_120, d_120_1, d_120_2, d_120_3]) (fun k hk => (hF45 k (by omega)).trans ((g1_n (by omega)).trans ((hF44 k (by omega)).trans ((hF43 k (by omega)).trans ((g1_n (by omega)).trans ((hF42 k (by omega)).trans ((hF41 k (by omega)).trans ((g1_n (by omega)).trans ((hF40 k (by omega)).trans ((hF3 k (by omega)).trans ((g1_n (by omega)).trans (hF2 k (by omega))))))))))))) ((hF45 _ (by decide)).trans ((g1_n (by decide)).trans ((hF44 _ (by decide)).trans ((hF43 _ (by decide)).trans ((g1_n (by decide)).trans ((hF42 _ (by decide)).trans ((hF41 _ (by decide)).trans ((g1_n (by decide)).trans ((hF40 _ (by decide)).trans ((hF3 _ (by decide)).trans ((g1_n (by decide)).trans (hF2 _ (by decide)))))))))))))) dX12_hardest_124
                                        · skip
                                          refine lv_aload_n hx hb dX12_hardest_90 rfl (lv_at hl 1 rfl) ?_
                                          refine z_get C0 hP (C := RX12) (T := TX12) (N := 21) (ci := 10) (index := 9) (k := 92) (ref := "WetSuitPedalsShoesModel") (zk_lt (rfl : zk 92 = 10) (by decide)) (zd_10 E (rfl : zk 92 = 10) _) rfl (zmi inU_12) 0 (by decide) (zm flRX12_9) rfl (v := .ref (E.1 93)) (rfl) dX12_hardest_91 ?_
                                          refine lv_iload_n hx hb dX12_hardest_94 rfl (lv_at hl 2 rfl) ?_
                                          refine lv_iconst (v := (3 : Int32)) hx hb dX12_hardest_95 (by decide) ?_
                                          refine z_Si C0 hP hD hA hS (As := [.int (nI ia), .int (3 : Int32)]) (rest := [.ref (E.1 93)]) (c_X12_athleteAt l E _ ia 3) (va_cwS 2 hts (zgS zbw mlRX12_70 stX12_athleteAt iniRX12 coX12_athleteAt) rfl rfl rfl (by decide +kernel) ⟨Nat.le_of_ble_eq_true rfl, Nat.le_of_ble_eq_true rfl⟩) rfl hl.1 rfl (Nat.le_of_ble_eq_true rfl) dX12_hardest_96 ⟨Nat.zero_le _, Nat.zero_le _⟩ (fun r46 G46 H locs hw46 hP hS => ?_)
                                          obtain ⟨hr46, rfl⟩ := hw46
                                          subst hr46
                                          refine z_eqi (y := (nI (35 + 4 * ia))) (congrArg nI (by omega)) ?_
                                          refine z_iald C0 hP (k := 93) (i := 35 + 4 * ia) (v := (r (35 + 4 * ia))) (rfl : zk 93 = 11) (Nat.lt_of_lt_of_eq (show 35 + 4 * ia < 102 by omega) (rfl : zl 93 = 102).symm) rfl dX12_hardest_99 (congrFun ((hF45 _ (by decide)).trans ((g1_n (by decide)).trans ((hF44 _ (by decide)).trans ((hF43 _ (by decide)).trans ((g1_n (by decide)).trans ((hF42 _ (by decide)).trans ((hF41 _ (by decide)).trans ((g1_n (by decide)).trans ((hF40 _ (by decide)).trans ((hF3 _ (by decide)).trans ((g1_n (by decide)).trans ((hF2 _ (by decide)).trans (hM))))))))))))) _) ?_
                                          refine lv_goto (tgt := 116) hx hb dX12_hardest_100 (by decide) ?_
                                          refine lv_istore (lv' := [(4, .int (r (35 + 4 * ia))), (3, .int r45), (0, .ref (E.1 92)), (1, .int (nI ia)), (2, .int (0 : Int32))]) hx hb dX12_hardest_116 hl (by decide) rfl (fun ls hl => ?_)
                                          refine lv_iload hx hb dX12_hardest_118 (lv_at hl 0 rfl) ?_
                                          refine lv_if_le (tgt := 125) hx hb dX12_hardest_120 (by decide) (fun c_120_3 => ?_) (fun c_120_3 => ?_)
                                          · skip
                                            have d_120_3 := Int32.not_lt.mpr c_120_3
                                            have e_120_3 := q_hd_0 (r := r) (a := ia) (v := (0 : Int32)) c_87_3
                                            rw [← e_120_3] at d_120_3
                                            refine lv_iinc (v := (-1 : Int32)) (lv' := [(2, .int (-1 : Int32)), (4, .int (r (35 + 4 * ia))), (3, .int r45), (0, .ref (E.1 92)), (1, .int (nI ia))]) hx hb dX12_hardest_125 hl (k := 4) rfl (by decide) (by decide) rfl (fun ls hl => ?_)
                                            refine lv_goto (tgt := 16) hx hb dX12_hardest_128 (by decide) ?_
                                            refine lv_iload_n hx hb dX12_hardest_16 rfl (lv_at hl 0 rfl) ?_
                                            refine lv_if_lt (tgt := 131) hx hb dX12_hardest_17 (by decide) (fun _ => ?_) (fun h_ => absurd (by decide) h_)
                                            refine lv_bipush (v := (-9 : Int32)) hx hb dX12_hardest_131 (by decide) ?_
                                            subst hQ_
                                            exact z_iret C0 hP hS (v := (-9 : Int32)) (by exact zQm_of (k := 0) (by simp [A_hardest, hz_ia, hy_ia, d_120, d_120_1, d_120_2, d_120_3]) (fun k hk => (hF45 k (by omega)).trans ((g1_n (by omega)).trans ((hF44 k (by omega)).trans ((hF43 k (by omega)).trans ((g1_n (by omega)).trans ((hF42 k (by omega)).trans ((hF41 k (by omega)).trans ((g1_n (by omega)).trans ((hF40 k (by omega)).trans ((hF3 k (by omega)).trans ((g1_n (by omega)).trans (hF2 k (by omega))))))))))))) ((hF45 _ (by decide)).trans ((g1_n (by decide)).trans ((hF44 _ (by decide)).trans ((hF43 _ (by decide)).trans ((g1_n (by decide)).trans ((hF42 _ (by decide)).trans ((hF41 _ (by decide)).trans ((g1_n (by decide)).trans ((hF40 _ (by decide)).trans ((hF3 _ (by decide)).trans ((g1_n (by decide)).trans (hF2 _ (by decide)))))))))))))) dX12_hardest_133
                                          · skip
                                            have d_120_3 := Int32.not_le.mp c_120_3
                                            have e_120_3 := q_hd_0 (r := r) (a := ia) (v := (0 : Int32)) c_87_3
                                            rw [← e_120_3] at d_120_3
                                            refine lv_iload_n hx hb dX12_hardest_123 rfl (lv_at hl 4 rfl) ?_
                                            subst hQ_
                                            exact z_iret C0 hP hS (v := (0 : Int32)) (by exact zQm_of (k := 0) (by simp [A_hardest, hz_ia, hy_ia, d_120, d_120_1, d_120_2, d_120_3]) (fun k hk => (hF45 k (by omega)).trans ((g1_n (by omega)).trans ((hF44 k (by omega)).trans ((hF43 k (by omega)).trans ((g1_n (by omega)).trans ((hF42 k (by omega)).trans ((hF41 k (by omega)).trans ((g1_n (by omega)).trans ((hF40 k (by omega)).trans ((hF3 k (by omega)).trans ((g1_n (by omega)).trans (hF2 k (by omega))))))))))))) ((hF45 _ (by decide)).trans ((g1_n (by decide)).trans ((hF44 _ (by decide)).trans ((hF43 _ (by decide)).trans ((g1_n (by decide)).trans ((hF42 _ (by decide)).trans ((hF41 _ (by decide)).trans ((g1_n (by decide)).trans ((hF40 _ (by decide)).trans ((hF3 _ (by decide)).trans ((g1_n (by decide)).trans (hF2 _ (by decide)))))))))))))) dX12_hardest_124
                                      · skip
                                        refine lv_aload_n hx hb dX12_hardest_43 rfl (lv_at hl 0 rfl) ?_
                                        refine z_get C0 hP (C := RX12) (T := TX12) (N := 21) (ci := 10) (index := 9) (k := 92) (ref := "WetSuitPedalsShoesModel") (zk_lt (rfl : zk 92 = 10) (by decide)) (zd_10 E (rfl : zk 92 = 10) _) rfl (zmi inU_12) 0 (by decide) (zm flRX12_9) rfl (v := .ref (E.1 93)) (rfl) dX12_hardest_44 ?_
                                        refine lv_iload_n hx hb dX12_hardest_47 rfl (lv_at hl 3 rfl) ?_
                                        refine z_Si C0 hP hD hA hS (As := [.ref (E.1 93), .int (nI i)]) (rest := []) (c_X12_isRide l E _ 93 i z_lit_Arr102_93 (by omega)) (va_cwS 2 hts (zgS zbw mlRX12_73 stX12_isRide iniRX12 coX12_isRide) rfl rfl rfl (by decide +kernel) ⟨Nat.le_of_ble_eq_true rfl, Nat.le_of_ble_eq_true rfl⟩) rfl hl.1 rfl (Nat.le_of_ble_eq_true rfl) dX12_hardest_48 ⟨Nat.zero_le _, Nat.zero_le _⟩ (fun r47 G47 H locs hw47 hP hS => ?_)
                                        obtain ⟨hr47, rfl⟩ := hw47
                                        have hr47 : s_isRide (r (2 + 3 * i)) = _ := (congrArg (fun z_ : Nat → Int32 => s_isRide (z_ (2 + 3 * i))) (show (g1 G44 94 f) 93 = r from (g1_n (by decide)).trans ((hF44 _ (by decide)).trans ((hF43 _ (by decide)).trans ((g1_n (by decide)).trans ((hF42 _ (by decide)).trans ((hF41 _ (by decide)).trans ((g1_n (by decide)).trans ((hF40 _ (by decide)).trans ((hF3 _ (by decide)).trans ((g1_n (by decide)).trans ((hF2 _ (by decide)).trans (hM))))))))))))).symm.trans hr47
                                        subst hr47
                                        refine lv_if_eq (tgt := 65) hx hb dX12_hardest_51 (by decide) (fun c_51 => ?_) (fun c_51 => ?_)
                                        · skip
                                          refine lv_iinc (v := (nI (i + 1))) (lv' := [(3, .int (nI (i + 1))), (0, .ref (E.1 92)), (1, .int (nI ia)), (2, .int (0 : Int32))]) hx hb dX12_hardest_65 hl (k := 3) rfl (z_inc (by decide)) (by decide) rfl (fun ls hl => ?_)
                                          refine lv_goto (tgt := 33) hx hb dX12_hardest_68 (by decide) ?_
                                          exact ih_33 (i + 1) f _ _ _ (by first | assumption | omega) (by intro j hj; rw [s_rd_n (fun q => by rw [c_51] at q; exact absurd q (by decide))]; exact hf j hj) hP hS (lv_sub hl [1, 2, 3, 0] rfl) (by omega)
                                        · skip
                                          refine lv_aload_n hx hb dX12_hardest_54 rfl (lv_at hl 0 rfl) ?_
                                          refine z_get C0 hP (C := RX12) (T := TX12) (N := 21) (ci := 10) (index := 13) (k := 92) (ref := "WetSuitPedalsShoesModel") (zk_lt (rfl : zk 92 = 10) (by decide)) (zd_10 E (rfl : zk 92 = 10) _) rfl (zmi inU_12) 1 (by decide) (zm flRX12_13) rfl (v := .ref (E.1 94)) (rfl) dX12_hardest_55 ?_
                                          refine lv_iload_n hx hb dX12_hardest_58 rfl (lv_at hl 1 rfl) ?_
                                          refine lv_iload_n hx hb dX12_hardest_59 rfl (lv_at hl 3 rfl) ?_
                                          refine z_Si C0 hP hD hA hS (As := [.int (nI ia), .int (nI i)]) (rest := [.ref (E.1 94)]) (c_X12_tried l E _ ia i) (va_cwS 2 hts (zgS zbw mlRX12_91 stX12_tried iniRX12 coX12_tried) rfl rfl rfl (by decide +kernel) ⟨Nat.le_of_ble_eq_true rfl, Nat.le_of_ble_eq_true rfl⟩) rfl hl.1 rfl (Nat.le_of_ble_eq_true rfl) dX12_hardest_60 ⟨Nat.zero_le _, Nat.zero_le _⟩ (fun r48 G48 H locs hw48 hP hS => ?_)
                                          obtain ⟨hr48, rfl⟩ := hw48
                                          subst hr48
                                          refine z_eqi (y := (nI (52 + 10 * ia + i))) (congrArg nI (by omega)) ?_
                                          refine lv_iload_n hx hb dX12_hardest_63 rfl (lv_at hl 2 rfl) ?_
                                          refine z_iast C0 hP hD hS (k := 94) (i := 52 + 10 * ia + i) (v := (0 : Int32)) (F := f) (g1_s _ _ _) (rfl : zk 94 = 11) (Nat.lt_of_lt_of_eq (show 52 + 10 * ia + i < 102 by omega) (rfl : zl 94 = 102).symm) rfl dX12_hardest_64 (fun H locs hP hS => ?_)
                                          have hP := zP_eq (g1_t _ _ _ _ : _ = (g1 G44 94 (upd f (52 + 10 * ia + i) (0 : Int32)))) hP
                                          refine lv_iinc (v := (nI (i + 1))) (lv' := [(3, .int (nI (i + 1))), (0, .ref (E.1 92)), (1, .int (nI ia)), (2, .int (0 : Int32))]) hx hb dX12_hardest_65 hl (k := 3) rfl (z_inc (by decide)) (by decide) rfl (fun ls hl => ?_)
                                          refine lv_goto (tgt := 33) hx hb dX12_hardest_68 (by decide) ?_
                                          exact ih_33 (i + 1) (upd f (52 + 10 * ia + i) (0 : Int32)) _ _ _ (by first | assumption | omega) (by intro j hj; rw [s_rd_y (s_ride_ne c_51)]; exact upd_c hf j hj) hP hS (lv_sub hl [1, 2, 3, 0] rfl) (by omega)
                                  exact cut_33 (_ + 1) 0 (G44 94) _ _ _ (by first | assumption | omega) (by exact (fun j hj => (hcp44 j hj).trans (congrFun ((hF43 _ (by decide)).trans ((g1_n (by decide)).trans ((hF42 _ (by decide)).trans ((hF41 _ (by decide)).trans ((g1_n (by decide)).trans ((hF40 _ (by decide)).trans ((hF3 _ (by decide)).trans ((g1_n (by decide)).trans ((hF2 _ (by decide)).trans (hM)))))))))) j))) (zP_eq ((g1_e G44 94).symm) hP) hS (lv_sub hl [3, 4, 1, 0] rfl) (Nat.lt_succ_self _)
                                · skip
                                  have d_120_2 := Int32.not_le.mp c_120_2
                                  have e_120_2 := q_hd_m (v := (1 : Int32)) c_87_2 hin c_40_2 (by omega) (by omega) hf
                                  rw [← e_120_2] at d_120_2
                                  refine lv_iload_n hx hb dX12_hardest_123 rfl (lv_at hl 4 rfl) ?_
                                  subst hQ_
                                  exact z_iret C0 hP hS (v := (1 : Int32)) (by exact zQm_of (k := 0) (by simp [A_hardest, hz_ia, hy_ia, d_120, d_120_1, d_120_2]) (fun k hk => (hF43 k (by omega)).trans ((g1_n (by omega)).trans ((hF42 k (by omega)).trans ((hF41 k (by omega)).trans ((g1_n (by omega)).trans ((hF40 k (by omega)).trans ((hF3 k (by omega)).trans ((g1_n (by omega)).trans (hF2 k (by omega)))))))))) ((hF43 _ (by decide)).trans ((g1_n (by decide)).trans ((hF42 _ (by decide)).trans ((hF41 _ (by decide)).trans ((g1_n (by decide)).trans ((hF40 _ (by decide)).trans ((hF3 _ (by decide)).trans ((g1_n (by decide)).trans (hF2 _ (by decide))))))))))) dX12_hardest_124
                              · skip
                                refine lv_aload_n hx hb dX12_hardest_90 rfl (lv_at hl 1 rfl) ?_
                                refine z_get C0 hP (C := RX12) (T := TX12) (N := 21) (ci := 10) (index := 9) (k := 92) (ref := "WetSuitPedalsShoesModel") (zk_lt (rfl : zk 92 = 10) (by decide)) (zd_10 E (rfl : zk 92 = 10) _) rfl (zmi inU_12) 0 (by decide) (zm flRX12_9) rfl (v := .ref (E.1 93)) (rfl) dX12_hardest_91 ?_
                                refine lv_iload_n hx hb dX12_hardest_94 rfl (lv_at hl 2 rfl) ?_
                                refine lv_iconst (v := (3 : Int32)) hx hb dX12_hardest_95 (by decide) ?_
                                refine z_Si C0 hP hD hA hS (As := [.int (nI ia), .int (3 : Int32)]) (rest := [.ref (E.1 93)]) (c_X12_athleteAt l E _ ia 3) (va_cwS 2 hts (zgS zbw mlRX12_70 stX12_athleteAt iniRX12 coX12_athleteAt) rfl rfl rfl (by decide +kernel) ⟨Nat.le_of_ble_eq_true rfl, Nat.le_of_ble_eq_true rfl⟩) rfl hl.1 rfl (Nat.le_of_ble_eq_true rfl) dX12_hardest_96 ⟨Nat.zero_le _, Nat.zero_le _⟩ (fun r49 G49 H locs hw49 hP hS => ?_)
                                obtain ⟨hr49, rfl⟩ := hw49
                                subst hr49
                                refine z_eqi (y := (nI (35 + 4 * ia))) (congrArg nI (by omega)) ?_
                                refine z_iald C0 hP (k := 93) (i := 35 + 4 * ia) (v := (r (35 + 4 * ia))) (rfl : zk 93 = 11) (Nat.lt_of_lt_of_eq (show 35 + 4 * ia < 102 by omega) (rfl : zl 93 = 102).symm) rfl dX12_hardest_99 (congrFun ((hF43 _ (by decide)).trans ((g1_n (by decide)).trans ((hF42 _ (by decide)).trans ((hF41 _ (by decide)).trans ((g1_n (by decide)).trans ((hF40 _ (by decide)).trans ((hF3 _ (by decide)).trans ((g1_n (by decide)).trans ((hF2 _ (by decide)).trans (hM)))))))))) _) ?_
                                refine lv_goto (tgt := 116) hx hb dX12_hardest_100 (by decide) ?_
                                refine lv_istore (lv' := [(4, .int (r (35 + 4 * ia))), (3, .int r43), (0, .ref (E.1 92)), (1, .int (nI ia)), (2, .int (1 : Int32))]) hx hb dX12_hardest_116 hl (by decide) rfl (fun ls hl => ?_)
                                refine lv_iload hx hb dX12_hardest_118 (lv_at hl 0 rfl) ?_
                                refine lv_if_le (tgt := 125) hx hb dX12_hardest_120 (by decide) (fun c_120_2 => ?_) (fun c_120_2 => ?_)
                                · skip
                                  have d_120_2 := Int32.not_lt.mpr c_120_2
                                  have e_120_2 := q_hd_0 (r := r) (a := ia) (v := (1 : Int32)) c_87_2
                                  rw [← e_120_2] at d_120_2
                                  refine lv_iinc (v := (0 : Int32)) (lv' := [(2, .int (0 : Int32)), (4, .int (r (35 + 4 * ia))), (3, .int r43), (0, .ref (E.1 92)), (1, .int (nI ia))]) hx hb dX12_hardest_125 hl (k := 4) rfl (by decide) (by decide) rfl (fun ls hl => ?_)
                                  refine lv_goto (tgt := 16) hx hb dX12_hardest_128 (by decide) ?_
                                  refine lv_iload_n hx hb dX12_hardest_16 rfl (lv_at hl 0 rfl) ?_
                                  refine lv_if_lt (tgt := 131) hx hb dX12_hardest_17 (by decide) (fun h_ => absurd h_ (by decide)) (fun _ => ?_)
                                  refine lv_aload_n hx hb dX12_hardest_20 rfl (lv_at hl 3 rfl) ?_
                                  refine z_get C0 hP (C := RX12) (T := TX12) (N := 21) (ci := 10) (index := 9) (k := 92) (ref := "WetSuitPedalsShoesModel") (zk_lt (rfl : zk 92 = 10) (by decide)) (zd_10 E (rfl : zk 92 = 10) _) rfl (zmi inU_12) 0 (by decide) (zm flRX12_9) rfl (v := .ref (E.1 93)) (rfl) dX12_hardest_21 ?_
                                  refine lv_aload_n hx hb dX12_hardest_24 rfl (lv_at hl 3 rfl) ?_
                                  refine z_get C0 hP (C := RX12) (T := TX12) (N := 21) (ci := 10) (index := 13) (k := 92) (ref := "WetSuitPedalsShoesModel") (zk_lt (rfl : zk 92 = 10) (by decide)) (zd_10 E (rfl : zk 92 = 10) _) rfl (zmi inU_12) 1 (by decide) (zm flRX12_13) rfl (v := .ref (E.1 94)) (rfl) dX12_hardest_25 ?_
                                  refine z_Sv C0 hP hD hA hS (As := [.ref (E.1 93), .ref (E.1 94)]) (rest := []) (c_X12_lays l E _ 93 94 z_lit_Arr102_93 z_lit_Arr102_94 (by decide)) (va_cwS 2 hts (zgS zbw mlRX12_149 stX12_lays iniRX12 coX12_lays) rfl rfl rfl (by decide +kernel) ⟨Nat.le_of_ble_eq_true rfl, Nat.le_of_ble_eq_true rfl⟩) rfl hl.1 rfl (Nat.le_of_ble_eq_true rfl) dX12_hardest_28 ⟨Nat.zero_le _, Nat.zero_le _⟩ (fun G50 H locs hw50 hP hS => ?_)
                                  obtain ⟨hF50, hcp50⟩ := hw50
                                  refine lv_iconst (v := (0 : Int32)) hx hb dX12_hardest_31 (by decide) ?_
                                  refine lv_istore_n (lv' := [(3, .int (0 : Int32)), (2, .int (0 : Int32)), (4, .int (r (35 + 4 * ia))), (0, .ref (E.1 92)), (1, .int (nI ia))]) hx hb dX12_hardest_32 rfl hl (by decide) rfl (fun ls hl => ?_)
                                  have cut_33 : ∀ (fuel : Nat), ∀ (i : Nat) (f : Nat → Int32) (H : Heap) (locs : List Loc) (ls : Array Slot), (i ≤ n) → (∀ j, j < 102 → f j = s_rd r ia (0 : Int32) i j) → zP E (g1 G50 94 f) H → va_S (zA E s_.heap.size) s_.heap H locs → lv_has ls 5 [(0, .ref (E.1 92)), (1, .int (nI ia)), (2, .int (0 : Int32)), (3, .int (nI i))] → n - i < fuel → W p_ l e_ ({ frames := 6, cells := 0, slots := 0, locals := 142 } : Room) s_ m_ a_ b_ me_ c_ H locs 0 0 Q_ (F0 m_ 33 ls []) := by
                                    intro fuel
                                    induction fuel with
                                    | zero =>
                                      intro i  f  H locs ls hin hf hP hS hl hfu
                                      exact absurd hfu (Nat.not_lt_zero _)
                                    | succ fuel ih_33 =>
                                      intro i  f  H locs ls hin hf hP hS hl hfu_33
                                      refine lv_iload_n hx hb dX12_hardest_33 rfl (lv_at hl 3 rfl) ?_
                                      refine lv_aload_n hx hb dX12_hardest_34 rfl (lv_at hl 0 rfl) ?_
                                      refine z_get C0 hP (C := RX12) (T := TX12) (N := 21) (ci := 10) (index := 9) (k := 92) (ref := "WetSuitPedalsShoesModel") (zk_lt (rfl : zk 92 = 10) (by decide)) (zd_10 E (rfl : zk 92 = 10) _) rfl (zmi inU_12) 0 (by decide) (zm flRX12_9) rfl (v := .ref (E.1 93)) (rfl) dX12_hardest_35 ?_
                                      refine lv_iconst (v := (0 : Int32)) hx hb dX12_hardest_38 (by decide) ?_
                                      refine z_iald C0 hP (k := 93) (i := 0) (v := (nI n)) (rfl : zk 93 = 11) (Nat.lt_of_lt_of_eq (show 0 < 102 by decide) (rfl : zl 93 = 102).symm) rfl dX12_hardest_39 ((congrFun ((g1_n (by decide)).trans ((hF50 _ (by decide)).trans ((hF43 _ (by decide)).trans ((g1_n (by decide)).trans ((hF42 _ (by decide)).trans ((hF41 _ (by decide)).trans ((g1_n (by decide)).trans ((hF40 _ (by decide)).trans ((hF3 _ (by decide)).trans ((g1_n (by decide)).trans ((hF2 _ (by decide)).trans (hM)))))))))))) _).trans (hrn)) ?_
                                      refine z_N_ge hx hb (a := i) (b := n) (tgt := 71) dX12_hardest_40 rfl rfl (by omega) (by omega) (by decide) (fun c_40_3 => ?_) (fun c_40_3 => ?_)
                                      · skip
                                        refine lv_aload_n hx hb dX12_hardest_71 rfl (lv_at hl 0 rfl) ?_
                                        refine lv_aload_n hx hb dX12_hardest_72 rfl (lv_at hl 0 rfl) ?_
                                        refine z_get C0 hP (C := RX12) (T := TX12) (N := 21) (ci := 10) (index := 13) (k := 92) (ref := "WetSuitPedalsShoesModel") (zk_lt (rfl : zk 92 = 10) (by decide)) (zd_10 E (rfl : zk 92 = 10) _) rfl (zmi inU_12) 1 (by decide) (zm flRX12_13) rfl (v := .ref (E.1 94)) (rfl) dX12_hardest_73 ?_
                                        refine lv_iload_n hx hb dX12_hardest_76 rfl (lv_at hl 1 rfl) ?_
                                        refine z_Vi C0 hP hD hA hS (As := [.ref (E.1 94), .int (nI ia)]) (rest := []) (k := 92) (c_X12_finishOf l E _ 94 ia n z_lit_Arr102_94 (by omega) ((congrFun (g1_s _ _ _) _).trans ((hf 0 (by decide)).trans ((s_rd_o _ 0 (by omega)).trans hrn))) (by omega) (by omega)) (cwV 2 hts (zgV zbw mlRX12_156 imX12_finishOf seX12_finishOf iniRX12 coX12_finishOf) rfl rfl rfl (by decide +kernel) ⟨Nat.le_of_ble_eq_true rfl, Nat.le_of_ble_eq_true rfl⟩) (zk_lt (rfl : zk 92 = 10) (by decide)) (zd_10 E (rfl : zk 92 = 10) _) rfl rfl rfl hl.1 rfl (Nat.le_of_ble_eq_true rfl) dX12_hardest_77 ⟨Nat.zero_le _, Nat.zero_le _⟩ (fun r51 G51 H locs hw51 hP hS => ?_)
                                        obtain ⟨hr51, hF51, hrow51⟩ := hw51
                                        rw [show (g1 G50 94 f) 94 = f from g1_s _ _ _] at hr51 hrow51
                                        refine lv_istore_n (lv' := [(3, .int r51), (0, .ref (E.1 92)), (1, .int (nI ia)), (2, .int (0 : Int32))]) hx hb dX12_hardest_80 rfl hl (by decide) rfl (fun ls hl => ?_)
                                        refine lv_aload_n hx hb dX12_hardest_81 rfl (lv_at hl 1 rfl) ?_
                                        refine z_get C0 hP (C := RX12) (T := TX12) (N := 21) (ci := 10) (index := 9) (k := 92) (ref := "WetSuitPedalsShoesModel") (zk_lt (rfl : zk 92 = 10) (by decide)) (zd_10 E (rfl : zk 92 = 10) _) rfl (zmi inU_12) 0 (by decide) (zm flRX12_9) rfl (v := .ref (E.1 93)) (rfl) dX12_hardest_82 ?_
                                        refine lv_iconst (v := (0 : Int32)) hx hb dX12_hardest_85 (by decide) ?_
                                        refine z_iald C0 hP (k := 93) (i := 0) (v := (nI n)) (rfl : zk 93 = 11) (Nat.lt_of_lt_of_eq (show 0 < 102 by decide) (rfl : zl 93 = 102).symm) rfl dX12_hardest_86 ((congrFun ((hF51 _ (by decide)).trans ((g1_n (by decide)).trans ((hF50 _ (by decide)).trans ((hF43 _ (by decide)).trans ((g1_n (by decide)).trans ((hF42 _ (by decide)).trans ((hF41 _ (by decide)).trans ((g1_n (by decide)).trans ((hF40 _ (by decide)).trans ((hF3 _ (by decide)).trans ((g1_n (by decide)).trans ((hF2 _ (by decide)).trans (hM))))))))))))) _).trans (hrn)) ?_
                                        refine z_0_ne hx hb (a := n) (tgt := 103) dX12_hardest_87 rfl (by omega) (by decide) (fun c_87_3 => ?_) (fun c_87_3 => ?_)
                                        · skip
                                          refine lv_aload_n hx hb dX12_hardest_103 rfl (lv_at hl 1 rfl) ?_
                                          refine z_get C0 hP (C := RX12) (T := TX12) (N := 21) (ci := 10) (index := 34) (k := 92) (ref := "WetSuitPedalsShoesModel") (zk_lt (rfl : zk 92 = 10) (by decide)) (zd_10 E (rfl : zk 92 = 10) _) rfl (zmi inU_12) 11 (by decide) (zm flRX12_34) rfl (v := .ref (E.1 101)) (rfl) dX12_hardest_104 ?_
                                          refine lv_aload_n hx hb dX12_hardest_107 rfl (lv_at hl 1 rfl) ?_
                                          refine z_get C0 hP (C := RX12) (T := TX12) (N := 21) (ci := 10) (index := 9) (k := 92) (ref := "WetSuitPedalsShoesModel") (zk_lt (rfl : zk 92 = 10) (by decide)) (zd_10 E (rfl : zk 92 = 10) _) rfl (zmi inU_12) 0 (by decide) (zm flRX12_9) rfl (v := .ref (E.1 93)) (rfl) dX12_hardest_108 ?_
                                          refine lv_iconst (v := (0 : Int32)) hx hb dX12_hardest_111 (by decide) ?_
                                          refine z_iald C0 hP (k := 93) (i := 0) (v := (nI n)) (rfl : zk 93 = 11) (Nat.lt_of_lt_of_eq (show 0 < 102 by decide) (rfl : zl 93 = 102).symm) rfl dX12_hardest_112 ((congrFun ((hF51 _ (by decide)).trans ((g1_n (by decide)).trans ((hF50 _ (by decide)).trans ((hF43 _ (by decide)).trans ((g1_n (by decide)).trans ((hF42 _ (by decide)).trans ((hF41 _ (by decide)).trans ((g1_n (by decide)).trans ((hF40 _ (by decide)).trans ((hF3 _ (by decide)).trans ((g1_n (by decide)).trans ((hF2 _ (by decide)).trans (hM))))))))))))) _).trans (hrn)) ?_
                                          refine lv_iconst (v := (1 : Int32)) hx hb dX12_hardest_113 (by decide) ?_
                                          refine z_isub hx hb (a := n) (b := 1) (n := n - 1) dX12_hardest_114 rfl rfl (by omega) (by omega) ?_
                                          refine z_iald C0 hP (k := 101) (i := n - 1) (v := ((m_run f ia (-1) (n - 1 + 1)).1)) (rfl : zk 101 = 11) (Nat.lt_of_lt_of_eq (show n - 1 < 10 by omega) (rfl : zl 101 = 10).symm) rfl dX12_hardest_115 ((hrow51 (n - 1) (by omega)).2.1) ?_
                                          refine lv_istore (lv' := [(4, .int ((m_run f ia (-1) (n - 1 + 1)).1)), (3, .int r51), (0, .ref (E.1 92)), (1, .int (nI ia)), (2, .int (0 : Int32))]) hx hb dX12_hardest_116 hl (by decide) rfl (fun ls hl => ?_)
                                          refine lv_iload hx hb dX12_hardest_118 (lv_at hl 0 rfl) ?_
                                          refine lv_if_le (tgt := 125) hx hb dX12_hardest_120 (by decide) (fun c_120_3 => ?_) (fun c_120_3 => ?_)
                                          · skip
                                            have d_120_3 := Int32.not_lt.mpr c_120_3
                                            have e_120_3 := q_hd_m (v := (0 : Int32)) c_87_3 hin c_40_3 (by omega) (by omega) hf
                                            rw [← e_120_3] at d_120_3
                                            refine lv_iinc (v := (-1 : Int32)) (lv' := [(2, .int (-1 : Int32)), (4, .int ((m_run f ia (-1) (n - 1 + 1)).1)), (3, .int r51), (0, .ref (E.1 92)), (1, .int (nI ia))]) hx hb dX12_hardest_125 hl (k := 4) rfl (by decide) (by decide) rfl (fun ls hl => ?_)
                                            refine lv_goto (tgt := 16) hx hb dX12_hardest_128 (by decide) ?_
                                            refine lv_iload_n hx hb dX12_hardest_16 rfl (lv_at hl 0 rfl) ?_
                                            refine lv_if_lt (tgt := 131) hx hb dX12_hardest_17 (by decide) (fun _ => ?_) (fun h_ => absurd (by decide) h_)
                                            refine lv_bipush (v := (-9 : Int32)) hx hb dX12_hardest_131 (by decide) ?_
                                            subst hQ_
                                            exact z_iret C0 hP hS (v := (-9 : Int32)) (by exact zQm_of (k := 0) (by simp [A_hardest, hz_ia, hy_ia, d_120, d_120_1, d_120_2, d_120_3]) (fun k hk => (hF51 k (by omega)).trans ((g1_n (by omega)).trans ((hF50 k (by omega)).trans ((hF43 k (by omega)).trans ((g1_n (by omega)).trans ((hF42 k (by omega)).trans ((hF41 k (by omega)).trans ((g1_n (by omega)).trans ((hF40 k (by omega)).trans ((hF3 k (by omega)).trans ((g1_n (by omega)).trans (hF2 k (by omega))))))))))))) ((hF51 _ (by decide)).trans ((g1_n (by decide)).trans ((hF50 _ (by decide)).trans ((hF43 _ (by decide)).trans ((g1_n (by decide)).trans ((hF42 _ (by decide)).trans ((hF41 _ (by decide)).trans ((g1_n (by decide)).trans ((hF40 _ (by decide)).trans ((hF3 _ (by decide)).trans ((g1_n (by decide)).trans (hF2 _ (by decide)))))))))))))) dX12_hardest_133
                                          · skip
                                            have d_120_3 := Int32.not_le.mp c_120_3
                                            have e_120_3 := q_hd_m (v := (0 : Int32)) c_87_3 hin c_40_3 (by omega) (by omega) hf
                                            rw [← e_120_3] at d_120_3
                                            refine lv_iload_n hx hb dX12_hardest_123 rfl (lv_at hl 4 rfl) ?_
                                            subst hQ_
                                            exact z_iret C0 hP hS (v := (0 : Int32)) (by exact zQm_of (k := 0) (by simp [A_hardest, hz_ia, hy_ia, d_120, d_120_1, d_120_2, d_120_3]) (fun k hk => (hF51 k (by omega)).trans ((g1_n (by omega)).trans ((hF50 k (by omega)).trans ((hF43 k (by omega)).trans ((g1_n (by omega)).trans ((hF42 k (by omega)).trans ((hF41 k (by omega)).trans ((g1_n (by omega)).trans ((hF40 k (by omega)).trans ((hF3 k (by omega)).trans ((g1_n (by omega)).trans (hF2 k (by omega))))))))))))) ((hF51 _ (by decide)).trans ((g1_n (by decide)).trans ((hF50 _ (by decide)).trans ((hF43 _ (by decide)).trans ((g1_n (by decide)).trans ((hF42 _ (by decide)).trans ((hF41 _ (by decide)).trans ((g1_n (by decide)).trans ((hF40 _ (by decide)).trans ((hF3 _ (by decide)).trans ((g1_n (by decide)).trans (hF2 _ (by decide)))))))))))))) dX12_hardest_124
                                        · skip
                                          refine lv_aload_n hx hb dX12_hardest_90 rfl (lv_at hl 1 rfl) ?_
                                          refine z_get C0 hP (C := RX12) (T := TX12) (N := 21) (ci := 10) (index := 9) (k := 92) (ref := "WetSuitPedalsShoesModel") (zk_lt (rfl : zk 92 = 10) (by decide)) (zd_10 E (rfl : zk 92 = 10) _) rfl (zmi inU_12) 0 (by decide) (zm flRX12_9) rfl (v := .ref (E.1 93)) (rfl) dX12_hardest_91 ?_
                                          refine lv_iload_n hx hb dX12_hardest_94 rfl (lv_at hl 2 rfl) ?_
                                          refine lv_iconst (v := (3 : Int32)) hx hb dX12_hardest_95 (by decide) ?_
                                          refine z_Si C0 hP hD hA hS (As := [.int (nI ia), .int (3 : Int32)]) (rest := [.ref (E.1 93)]) (c_X12_athleteAt l E _ ia 3) (va_cwS 2 hts (zgS zbw mlRX12_70 stX12_athleteAt iniRX12 coX12_athleteAt) rfl rfl rfl (by decide +kernel) ⟨Nat.le_of_ble_eq_true rfl, Nat.le_of_ble_eq_true rfl⟩) rfl hl.1 rfl (Nat.le_of_ble_eq_true rfl) dX12_hardest_96 ⟨Nat.zero_le _, Nat.zero_le _⟩ (fun r52 G52 H locs hw52 hP hS => ?_)
                                          obtain ⟨hr52, rfl⟩ := hw52
                                          subst hr52
                                          refine z_eqi (y := (nI (35 + 4 * ia))) (congrArg nI (by omega)) ?_
                                          refine z_iald C0 hP (k := 93) (i := 35 + 4 * ia) (v := (r (35 + 4 * ia))) (rfl : zk 93 = 11) (Nat.lt_of_lt_of_eq (show 35 + 4 * ia < 102 by omega) (rfl : zl 93 = 102).symm) rfl dX12_hardest_99 (congrFun ((hF51 _ (by decide)).trans ((g1_n (by decide)).trans ((hF50 _ (by decide)).trans ((hF43 _ (by decide)).trans ((g1_n (by decide)).trans ((hF42 _ (by decide)).trans ((hF41 _ (by decide)).trans ((g1_n (by decide)).trans ((hF40 _ (by decide)).trans ((hF3 _ (by decide)).trans ((g1_n (by decide)).trans ((hF2 _ (by decide)).trans (hM))))))))))))) _) ?_
                                          refine lv_goto (tgt := 116) hx hb dX12_hardest_100 (by decide) ?_
                                          refine lv_istore (lv' := [(4, .int (r (35 + 4 * ia))), (3, .int r51), (0, .ref (E.1 92)), (1, .int (nI ia)), (2, .int (0 : Int32))]) hx hb dX12_hardest_116 hl (by decide) rfl (fun ls hl => ?_)
                                          refine lv_iload hx hb dX12_hardest_118 (lv_at hl 0 rfl) ?_
                                          refine lv_if_le (tgt := 125) hx hb dX12_hardest_120 (by decide) (fun c_120_3 => ?_) (fun c_120_3 => ?_)
                                          · skip
                                            have d_120_3 := Int32.not_lt.mpr c_120_3
                                            have e_120_3 := q_hd_0 (r := r) (a := ia) (v := (0 : Int32)) c_87_3
                                            rw [← e_120_3] at d_120_3
                                            refine lv_iinc (v := (-1 : Int32)) (lv' := [(2, .int (-1 : Int32)), (4, .int (r (35 + 4 * ia))), (3, .int r51), (0, .ref (E.1 92)), (1, .int (nI ia))]) hx hb dX12_hardest_125 hl (k := 4) rfl (by decide) (by decide) rfl (fun ls hl => ?_)
                                            refine lv_goto (tgt := 16) hx hb dX12_hardest_128 (by decide) ?_
                                            refine lv_iload_n hx hb dX12_hardest_16 rfl (lv_at hl 0 rfl) ?_
                                            refine lv_if_lt (tgt := 131) hx hb dX12_hardest_17 (by decide) (fun _ => ?_) (fun h_ => absurd (by decide) h_)
                                            refine lv_bipush (v := (-9 : Int32)) hx hb dX12_hardest_131 (by decide) ?_
                                            subst hQ_
                                            exact z_iret C0 hP hS (v := (-9 : Int32)) (by exact zQm_of (k := 0) (by simp [A_hardest, hz_ia, hy_ia, d_120, d_120_1, d_120_2, d_120_3]) (fun k hk => (hF51 k (by omega)).trans ((g1_n (by omega)).trans ((hF50 k (by omega)).trans ((hF43 k (by omega)).trans ((g1_n (by omega)).trans ((hF42 k (by omega)).trans ((hF41 k (by omega)).trans ((g1_n (by omega)).trans ((hF40 k (by omega)).trans ((hF3 k (by omega)).trans ((g1_n (by omega)).trans (hF2 k (by omega))))))))))))) ((hF51 _ (by decide)).trans ((g1_n (by decide)).trans ((hF50 _ (by decide)).trans ((hF43 _ (by decide)).trans ((g1_n (by decide)).trans ((hF42 _ (by decide)).trans ((hF41 _ (by decide)).trans ((g1_n (by decide)).trans ((hF40 _ (by decide)).trans ((hF3 _ (by decide)).trans ((g1_n (by decide)).trans (hF2 _ (by decide)))))))))))))) dX12_hardest_133
                                          · skip
                                            have d_120_3 := Int32.not_le.mp c_120_3
                                            have e_120_3 := q_hd_0 (r := r) (a := ia) (v := (0 : Int32)) c_87_3
                                            rw [← e_120_3] at d_120_3
                                            refine lv_iload_n hx hb dX12_hardest_123 rfl (lv_at hl 4 rfl) ?_
                                            subst hQ_
                                            exact z_iret C0 hP hS (v := (0 : Int32)) (by exact zQm_of (k := 0) (by simp [A_hardest, hz_ia, hy_ia, d_120, d_120_1, d_120_2, d_120_3]) (fun k hk => (hF51 k (by omega)).trans ((g1_n (by omega)).trans ((hF50 k (by omega)).trans ((hF43 k (by omega)).trans ((g1_n (by omega)).trans ((hF42 k (by omega)).trans ((hF41 k (by omega)).trans ((g1_n (by omega)).trans ((hF40 k (by omega)).trans ((hF3 k (by omega)).trans ((g1_n (by omega)).trans (hF2 k (by omega))))))))))))) ((hF51 _ (by decide)).trans ((g1_n (by decide)).trans ((hF50 _ (by decide)).trans ((hF43 _ (by decide)).trans ((g1_n (by decide)).trans ((hF42 _ (by decide)).trans ((hF41 _ (by decide)).trans ((g1_n (by decide)).trans ((hF40 _ (by decide)).trans ((hF3 _ (by decide)).trans ((g1_n (by decide)).trans (hF2 _ (by decide)))))))))))))) dX12_hardest_124
                                      · skip
                                        refine lv_aload_n hx hb dX12_hardest_43 rfl (lv_at hl 0 rfl) ?_
                                        refine z_get C0 hP (C := RX12) (T := TX12) (N := 21) (ci := 10) (index := 9) (k := 92) (ref := "WetSuitPedalsShoesModel") (zk_lt (rfl : zk 92 = 10) (by decide)) (zd_10 E (rfl : zk 92 = 10) _) rfl (zmi inU_12) 0 (by decide) (zm flRX12_9) rfl (v := .ref (E.1 93)) (rfl) dX12_hardest_44 ?_
                                        refine lv_iload_n hx hb dX12_hardest_47 rfl (lv_at hl 3 rfl) ?_
                                        refine z_Si C0 hP hD hA hS (As := [.ref (E.1 93), .int (nI i)]) (rest := []) (c_X12_isRide l E _ 93 i z_lit_Arr102_93 (by omega)) (va_cwS 2 hts (zgS zbw mlRX12_73 stX12_isRide iniRX12 coX12_isRide) rfl rfl rfl (by decide +kernel) ⟨Nat.le_of_ble_eq_true rfl, Nat.le_of_ble_eq_true rfl⟩) rfl hl.1 rfl (Nat.le_of_ble_eq_true rfl) dX12_hardest_48 ⟨Nat.zero_le _, Nat.zero_le _⟩ (fun r53 G53 H locs hw53 hP hS => ?_)
                                        obtain ⟨hr53, rfl⟩ := hw53
                                        have hr53 : s_isRide (r (2 + 3 * i)) = _ := (congrArg (fun z_ : Nat → Int32 => s_isRide (z_ (2 + 3 * i))) (show (g1 G50 94 f) 93 = r from (g1_n (by decide)).trans ((hF50 _ (by decide)).trans ((hF43 _ (by decide)).trans ((g1_n (by decide)).trans ((hF42 _ (by decide)).trans ((hF41 _ (by decide)).trans ((g1_n (by decide)).trans ((hF40 _ (by decide)).trans ((hF3 _ (by decide)).trans ((g1_n (by decide)).trans ((hF2 _ (by decide)).trans (hM))))))))))))).symm.trans hr53
                                        subst hr53
                                        refine lv_if_eq (tgt := 65) hx hb dX12_hardest_51 (by decide) (fun c_51 => ?_) (fun c_51 => ?_)
                                        · skip
                                          refine lv_iinc (v := (nI (i + 1))) (lv' := [(3, .int (nI (i + 1))), (0, .ref (E.1 92)), (1, .int (nI ia)), (2, .int (0 : Int32))]) hx hb dX12_hardest_65 hl (k := 3) rfl (z_inc (by decide)) (by decide) rfl (fun ls hl => ?_)
                                          refine lv_goto (tgt := 33) hx hb dX12_hardest_68 (by decide) ?_
                                          exact ih_33 (i + 1) f _ _ _ (by first | assumption | omega) (by intro j hj; rw [s_rd_n (fun q => by rw [c_51] at q; exact absurd q (by decide))]; exact hf j hj) hP hS (lv_sub hl [1, 2, 3, 0] rfl) (by omega)
                                        · skip
                                          refine lv_aload_n hx hb dX12_hardest_54 rfl (lv_at hl 0 rfl) ?_
                                          refine z_get C0 hP (C := RX12) (T := TX12) (N := 21) (ci := 10) (index := 13) (k := 92) (ref := "WetSuitPedalsShoesModel") (zk_lt (rfl : zk 92 = 10) (by decide)) (zd_10 E (rfl : zk 92 = 10) _) rfl (zmi inU_12) 1 (by decide) (zm flRX12_13) rfl (v := .ref (E.1 94)) (rfl) dX12_hardest_55 ?_
                                          refine lv_iload_n hx hb dX12_hardest_58 rfl (lv_at hl 1 rfl) ?_
                                          refine lv_iload_n hx hb dX12_hardest_59 rfl (lv_at hl 3 rfl) ?_
                                          refine z_Si C0 hP hD hA hS (As := [.int (nI ia), .int (nI i)]) (rest := [.ref (E.1 94)]) (c_X12_tried l E _ ia i) (va_cwS 2 hts (zgS zbw mlRX12_91 stX12_tried iniRX12 coX12_tried) rfl rfl rfl (by decide +kernel) ⟨Nat.le_of_ble_eq_true rfl, Nat.le_of_ble_eq_true rfl⟩) rfl hl.1 rfl (Nat.le_of_ble_eq_true rfl) dX12_hardest_60 ⟨Nat.zero_le _, Nat.zero_le _⟩ (fun r54 G54 H locs hw54 hP hS => ?_)
                                          obtain ⟨hr54, rfl⟩ := hw54
                                          subst hr54
                                          refine z_eqi (y := (nI (52 + 10 * ia + i))) (congrArg nI (by omega)) ?_
                                          refine lv_iload_n hx hb dX12_hardest_63 rfl (lv_at hl 2 rfl) ?_
                                          refine z_iast C0 hP hD hS (k := 94) (i := 52 + 10 * ia + i) (v := (0 : Int32)) (F := f) (g1_s _ _ _) (rfl : zk 94 = 11) (Nat.lt_of_lt_of_eq (show 52 + 10 * ia + i < 102 by omega) (rfl : zl 94 = 102).symm) rfl dX12_hardest_64 (fun H locs hP hS => ?_)
                                          have hP := zP_eq (g1_t _ _ _ _ : _ = (g1 G50 94 (upd f (52 + 10 * ia + i) (0 : Int32)))) hP
                                          refine lv_iinc (v := (nI (i + 1))) (lv' := [(3, .int (nI (i + 1))), (0, .ref (E.1 92)), (1, .int (nI ia)), (2, .int (0 : Int32))]) hx hb dX12_hardest_65 hl (k := 3) rfl (z_inc (by decide)) (by decide) rfl (fun ls hl => ?_)
                                          refine lv_goto (tgt := 33) hx hb dX12_hardest_68 (by decide) ?_
                                          exact ih_33 (i + 1) (upd f (52 + 10 * ia + i) (0 : Int32)) _ _ _ (by first | assumption | omega) (by intro j hj; rw [s_rd_y (s_ride_ne c_51)]; exact upd_c hf j hj) hP hS (lv_sub hl [1, 2, 3, 0] rfl) (by omega)
                                  exact cut_33 (_ + 1) 0 (G50 94) _ _ _ (by first | assumption | omega) (by exact (fun j hj => (hcp50 j hj).trans (congrFun ((hF43 _ (by decide)).trans ((g1_n (by decide)).trans ((hF42 _ (by decide)).trans ((hF41 _ (by decide)).trans ((g1_n (by decide)).trans ((hF40 _ (by decide)).trans ((hF3 _ (by decide)).trans ((g1_n (by decide)).trans ((hF2 _ (by decide)).trans (hM)))))))))) j))) (zP_eq ((g1_e G50 94).symm) hP) hS (lv_sub hl [3, 4, 1, 0] rfl) (Nat.lt_succ_self _)
                                · skip
                                  have d_120_2 := Int32.not_le.mp c_120_2
                                  have e_120_2 := q_hd_0 (r := r) (a := ia) (v := (1 : Int32)) c_87_2
                                  rw [← e_120_2] at d_120_2
                                  refine lv_iload_n hx hb dX12_hardest_123 rfl (lv_at hl 4 rfl) ?_
                                  subst hQ_
                                  exact z_iret C0 hP hS (v := (1 : Int32)) (by exact zQm_of (k := 0) (by simp [A_hardest, hz_ia, hy_ia, d_120, d_120_1, d_120_2]) (fun k hk => (hF43 k (by omega)).trans ((g1_n (by omega)).trans ((hF42 k (by omega)).trans ((hF41 k (by omega)).trans ((g1_n (by omega)).trans ((hF40 k (by omega)).trans ((hF3 k (by omega)).trans ((g1_n (by omega)).trans (hF2 k (by omega)))))))))) ((hF43 _ (by decide)).trans ((g1_n (by decide)).trans ((hF42 _ (by decide)).trans ((hF41 _ (by decide)).trans ((g1_n (by decide)).trans ((hF40 _ (by decide)).trans ((hF3 _ (by decide)).trans ((g1_n (by decide)).trans (hF2 _ (by decide))))))))))) dX12_hardest_124
                            · skip
                              refine lv_aload_n hx hb dX12_hardest_43 rfl (lv_at hl 0 rfl) ?_
                              refine z_get C0 hP (C := RX12) (T := TX12) (N := 21) (ci := 10) (index := 9) (k := 92) (ref := "WetSuitPedalsShoesModel") (zk_lt (rfl : zk 92 = 10) (by decide)) (zd_10 E (rfl : zk 92 = 10) _) rfl (zmi inU_12) 0 (by decide) (zm flRX12_9) rfl (v := .ref (E.1 93)) (rfl) dX12_hardest_44 ?_
                              refine lv_iload_n hx hb dX12_hardest_47 rfl (lv_at hl 3 rfl) ?_
                              refine z_Si C0 hP hD hA hS (As := [.ref (E.1 93), .int (nI i)]) (rest := []) (c_X12_isRide l E _ 93 i z_lit_Arr102_93 (by omega)) (va_cwS 2 hts (zgS zbw mlRX12_73 stX12_isRide iniRX12 coX12_isRide) rfl rfl rfl (by decide +kernel) ⟨Nat.le_of_ble_eq_true rfl, Nat.le_of_ble_eq_true rfl⟩) rfl hl.1 rfl (Nat.le_of_ble_eq_true rfl) dX12_hardest_48 ⟨Nat.zero_le _, Nat.zero_le _⟩ (fun r55 G55 H locs hw55 hP hS => ?_)
                              obtain ⟨hr55, rfl⟩ := hw55
                              have hr55 : s_isRide (r (2 + 3 * i)) = _ := (congrArg (fun z_ : Nat → Int32 => s_isRide (z_ (2 + 3 * i))) (show (g1 G42 94 f) 93 = r from (g1_n (by decide)).trans ((hF42 _ (by decide)).trans ((hF41 _ (by decide)).trans ((g1_n (by decide)).trans ((hF40 _ (by decide)).trans ((hF3 _ (by decide)).trans ((g1_n (by decide)).trans ((hF2 _ (by decide)).trans (hM)))))))))).symm.trans hr55
                              subst hr55
                              refine lv_if_eq (tgt := 65) hx hb dX12_hardest_51 (by decide) (fun c_51 => ?_) (fun c_51 => ?_)
                              · skip
                                refine lv_iinc (v := (nI (i + 1))) (lv' := [(3, .int (nI (i + 1))), (0, .ref (E.1 92)), (1, .int (nI ia)), (2, .int (1 : Int32))]) hx hb dX12_hardest_65 hl (k := 3) rfl (z_inc (by decide)) (by decide) rfl (fun ls hl => ?_)
                                refine lv_goto (tgt := 33) hx hb dX12_hardest_68 (by decide) ?_
                                exact ih_33 (i + 1) f _ _ _ (by first | assumption | omega) (by intro j hj; rw [s_rd_n (fun q => by rw [c_51] at q; exact absurd q (by decide))]; exact hf j hj) hP hS (lv_sub hl [1, 2, 3, 0] rfl) (by omega)
                              · skip
                                refine lv_aload_n hx hb dX12_hardest_54 rfl (lv_at hl 0 rfl) ?_
                                refine z_get C0 hP (C := RX12) (T := TX12) (N := 21) (ci := 10) (index := 13) (k := 92) (ref := "WetSuitPedalsShoesModel") (zk_lt (rfl : zk 92 = 10) (by decide)) (zd_10 E (rfl : zk 92 = 10) _) rfl (zmi inU_12) 1 (by decide) (zm flRX12_13) rfl (v := .ref (E.1 94)) (rfl) dX12_hardest_55 ?_
                                refine lv_iload_n hx hb dX12_hardest_58 rfl (lv_at hl 1 rfl) ?_
                                refine lv_iload_n hx hb dX12_hardest_59 rfl (lv_at hl 3 rfl) ?_
                                refine z_Si C0 hP hD hA hS (As := [.int (nI ia), .int (nI i)]) (rest := [.ref (E.1 94)]) (c_X12_tried l E _ ia i) (va_cwS 2 hts (zgS zbw mlRX12_91 stX12_tried iniRX12 coX12_tried) rfl rfl rfl (by decide +kernel) ⟨Nat.le_of_ble_eq_true rfl, Nat.le_of_ble_eq_true rfl⟩) rfl hl.1 rfl (Nat.le_of_ble_eq_true rfl) dX12_hardest_60 ⟨Nat.zero_le _, Nat.zero_le _⟩ (fun r56 G56 H locs hw56 hP hS => ?_)
                                obtain ⟨hr56, rfl⟩ := hw56
                                subst hr56
                                refine z_eqi (y := (nI (52 + 10 * ia + i))) (congrArg nI (by omega)) ?_
                                refine lv_iload_n hx hb dX12_hardest_63 rfl (lv_at hl 2 rfl) ?_
                                refine z_iast C0 hP hD hS (k := 94) (i := 52 + 10 * ia + i) (v := (1 : Int32)) (F := f) (g1_s _ _ _) (rfl : zk 94 = 11) (Nat.lt_of_lt_of_eq (show 52 + 10 * ia + i < 102 by omega) (rfl : zl 94 = 102).symm) rfl dX12_hardest_64 (fun H locs hP hS => ?_)
                                have hP := zP_eq (g1_t _ _ _ _ : _ = (g1 G42 94 (upd f (52 + 10 * ia + i) (1 : Int32)))) hP
                                refine lv_iinc (v := (nI (i + 1))) (lv' := [(3, .int (nI (i + 1))), (0, .ref (E.1 92)), (1, .int (nI ia)), (2, .int (1 : Int32))]) hx hb dX12_hardest_65 hl (k := 3) rfl (z_inc (by decide)) (by decide) rfl (fun ls hl => ?_)
                                refine lv_goto (tgt := 33) hx hb dX12_hardest_68 (by decide) ?_
                                exact ih_33 (i + 1) (upd f (52 + 10 * ia + i) (1 : Int32)) _ _ _ (by first | assumption | omega) (by intro j hj; rw [s_rd_y (s_ride_ne c_51)]; exact upd_c hf j hj) hP hS (lv_sub hl [1, 2, 3, 0] rfl) (by omega)
                        exact cut_33 (_ + 1) 0 (G42 94) _ _ _ (by first | assumption | omega) (by exact (fun j hj => (hcp42 j hj).trans (congrFun ((hF41 _ (by decide)).trans ((g1_n (by decide)).trans ((hF40 _ (by decide)).trans ((hF3 _ (by decide)).trans ((g1_n (by decide)).trans ((hF2 _ (by decide)).trans (hM))))))) j))) (zP_eq ((g1_e G42 94).symm) hP) hS (lv_sub hl [3, 4, 1, 0] rfl) (Nat.lt_succ_self _)
                      · skip
                        have d_120_1 := Int32.not_le.mp c_120_1
                        have e_120_1 := q_hd_m (v := (2 : Int32)) c_87_1 hin c_40_1 (by omega) (by omega) hf
                        rw [← e_120_1] at d_120_1
                        refine lv_iload_n hx hb dX12_hardest_123 rfl (lv_at hl 4 rfl) ?_
                        subst hQ_
                        exact z_iret C0 hP hS (v := (2 : Int32)) (by exact zQm_of (k := 0) (by simp [A_hardest, hz_ia, hy_ia, d_120, d_120_1]) (fun k hk => (hF41 k (by omega)).trans ((g1_n (by omega)).trans ((hF40 k (by omega)).trans ((hF3 k (by omega)).trans ((g1_n (by omega)).trans (hF2 k (by omega))))))) ((hF41 _ (by decide)).trans ((g1_n (by decide)).trans ((hF40 _ (by decide)).trans ((hF3 _ (by decide)).trans ((g1_n (by decide)).trans (hF2 _ (by decide)))))))) dX12_hardest_124
                    · skip
                      refine lv_aload_n hx hb dX12_hardest_90 rfl (lv_at hl 1 rfl) ?_
                      refine z_get C0 hP (C := RX12) (T := TX12) (N := 21) (ci := 10) (index := 9) (k := 92) (ref := "WetSuitPedalsShoesModel") (zk_lt (rfl : zk 92 = 10) (by decide)) (zd_10 E (rfl : zk 92 = 10) _) rfl (zmi inU_12) 0 (by decide) (zm flRX12_9) rfl (v := .ref (E.1 93)) (rfl) dX12_hardest_91 ?_
                      refine lv_iload_n hx hb dX12_hardest_94 rfl (lv_at hl 2 rfl) ?_
                      refine lv_iconst (v := (3 : Int32)) hx hb dX12_hardest_95 (by decide) ?_
                      refine z_Si C0 hP hD hA hS (As := [.int (nI ia), .int (3 : Int32)]) (rest := [.ref (E.1 93)]) (c_X12_athleteAt l E _ ia 3) (va_cwS 2 hts (zgS zbw mlRX12_70 stX12_athleteAt iniRX12 coX12_athleteAt) rfl rfl rfl (by decide +kernel) ⟨Nat.le_of_ble_eq_true rfl, Nat.le_of_ble_eq_true rfl⟩) rfl hl.1 rfl (Nat.le_of_ble_eq_true rfl) dX12_hardest_96 ⟨Nat.zero_le _, Nat.zero_le _⟩ (fun r57 G57 H locs hw57 hP hS => ?_)
                      obtain ⟨hr57, rfl⟩ := hw57
                      subst hr57
                      refine z_eqi (y := (nI (35 + 4 * ia))) (congrArg nI (by omega)) ?_
                      refine z_iald C0 hP (k := 93) (i := 35 + 4 * ia) (v := (r (35 + 4 * ia))) (rfl : zk 93 = 11) (Nat.lt_of_lt_of_eq (show 35 + 4 * ia < 102 by omega) (rfl : zl 93 = 102).symm) rfl dX12_hardest_99 (congrFun ((hF41 _ (by decide)).trans ((g1_n (by decide)).trans ((hF40 _ (by decide)).trans ((hF3 _ (by decide)).trans ((g1_n (by decide)).trans ((hF2 _ (by decide)).trans (hM))))))) _) ?_
                      refine lv_goto (tgt := 116) hx hb dX12_hardest_100 (by decide) ?_
                      refine lv_istore (lv' := [(4, .int (r (35 + 4 * ia))), (3, .int r41), (0, .ref (E.1 92)), (1, .int (nI ia)), (2, .int (2 : Int32))]) hx hb dX12_hardest_116 hl (by decide) rfl (fun ls hl => ?_)
                      refine lv_iload hx hb dX12_hardest_118 (lv_at hl 0 rfl) ?_
                      refine lv_if_le (tgt := 125) hx hb dX12_hardest_120 (by decide) (fun c_120_1 => ?_) (fun c_120_1 => ?_)
                      · skip
                        have d_120_1 := Int32.not_lt.mpr c_120_1
                        have e_120_1 := q_hd_0 (r := r) (a := ia) (v := (2 : Int32)) c_87_1
                        rw [← e_120_1] at d_120_1
                        refine lv_iinc (v := (1 : Int32)) (lv' := [(2, .int (1 : Int32)), (4, .int (r (35 + 4 * ia))), (3, .int r41), (0, .ref (E.1 92)), (1, .int (nI ia))]) hx hb dX12_hardest_125 hl (k := 4) rfl (by decide) (by decide) rfl (fun ls hl => ?_)
                        refine lv_goto (tgt := 16) hx hb dX12_hardest_128 (by decide) ?_
                        refine lv_iload_n hx hb dX12_hardest_16 rfl (lv_at hl 0 rfl) ?_
                        refine lv_if_lt (tgt := 131) hx hb dX12_hardest_17 (by decide) (fun h_ => absurd h_ (by decide)) (fun _ => ?_)
                        refine lv_aload_n hx hb dX12_hardest_20 rfl (lv_at hl 3 rfl) ?_
                        refine z_get C0 hP (C := RX12) (T := TX12) (N := 21) (ci := 10) (index := 9) (k := 92) (ref := "WetSuitPedalsShoesModel") (zk_lt (rfl : zk 92 = 10) (by decide)) (zd_10 E (rfl : zk 92 = 10) _) rfl (zmi inU_12) 0 (by decide) (zm flRX12_9) rfl (v := .ref (E.1 93)) (rfl) dX12_hardest_21 ?_
                        refine lv_aload_n hx hb dX12_hardest_24 rfl (lv_at hl 3 rfl) ?_
                        refine z_get C0 hP (C := RX12) (T := TX12) (N := 21) (ci := 10) (index := 13) (k := 92) (ref := "WetSuitPedalsShoesModel") (zk_lt (rfl : zk 92 = 10) (by decide)) (zd_10 E (rfl : zk 92 = 10) _) rfl (zmi inU_12) 1 (by decide) (zm flRX12_13) rfl (v := .ref (E.1 94)) (rfl) dX12_hardest_25 ?_
                        refine z_Sv C0 hP hD hA hS (As := [.ref (E.1 93), .ref (E.1 94)]) (rest := []) (c_X12_lays l E _ 93 94 z_lit_Arr102_93 z_lit_Arr102_94 (by decide)) (va_cwS 2 hts (zgS zbw mlRX12_149 stX12_lays iniRX12 coX12_lays) rfl rfl rfl (by decide +kernel) ⟨Nat.le_of_ble_eq_true rfl, Nat.le_of_ble_eq_true rfl⟩) rfl hl.1 rfl (Nat.le_of_ble_eq_true rfl) dX12_hardest_28 ⟨Nat.zero_le _, Nat.zero_le _⟩ (fun G58 H locs hw58 hP hS => ?_)
                        obtain ⟨hF58, hcp58⟩ := hw58
                        refine lv_iconst (v := (0 : Int32)) hx hb dX12_hardest_31 (by decide) ?_
                        refine lv_istore_n (lv' := [(3, .int (0 : Int32)), (2, .int (1 : Int32)), (4, .int (r (35 + 4 * ia))), (0, .ref (E.1 92)), (1, .int (nI ia))]) hx hb dX12_hardest_32 rfl hl (by decide) rfl (fun ls hl => ?_)
                        have cut_33 : ∀ (fuel : Nat), ∀ (i : Nat) (f : Nat → Int32) (H : Heap) (locs : List Loc) (ls : Array Slot), (i ≤ n) → (∀ j, j < 102 → f j = s_rd r ia (1 : Int32) i j) → zP E (g1 G58 94 f) H → va_S (zA E s_.heap.size) s_.heap H locs → lv_has ls 5 [(0, .ref (E.1 92)), (1, .int (nI ia)), (2, .int (1 : Int32)), (3, .int (nI i))] → n - i < fuel → W p_ l e_ ({ frames := 6, cells := 0, slots := 0, locals := 142 } : Room) s_ m_ a_ b_ me_ c_ H locs 0 0 Q_ (F0 m_ 33 ls []) := by
                          intro fuel
                          induction fuel with
                          | zero =>
                            intro i  f  H locs ls hin hf hP hS hl hfu
                            exact absurd hfu (Nat.not_lt_zero _)
                          | succ fuel ih_33 =>
                            intro i  f  H locs ls hin hf hP hS hl hfu_33
                            refine lv_iload_n hx hb dX12_hardest_33 rfl (lv_at hl 3 rfl) ?_
                            refine lv_aload_n hx hb dX12_hardest_34 rfl (lv_at hl 0 rfl) ?_
                            refine z_get C0 hP (C := RX12) (T := TX12) (N := 21) (ci := 10) (index := 9) (k := 92) (ref := "WetSuitPedalsShoesModel") (zk_lt (rfl : zk 92 = 10) (by decide)) (zd_10 E (rfl : zk 92 = 10) _) rfl (zmi inU_12) 0 (by decide) (zm flRX12_9) rfl (v := .ref (E.1 93)) (rfl) dX12_hardest_35 ?_
                            refine lv_iconst (v := (0 : Int32)) hx hb dX12_hardest_38 (by decide) ?_
                            refine z_iald C0 hP (k := 93) (i := 0) (v := (nI n)) (rfl : zk 93 = 11) (Nat.lt_of_lt_of_eq (show 0 < 102 by decide) (rfl : zl 93 = 102).symm) rfl dX12_hardest_39 ((congrFun ((g1_n (by decide)).trans ((hF58 _ (by decide)).trans ((hF41 _ (by decide)).trans ((g1_n (by decide)).trans ((hF40 _ (by decide)).trans ((hF3 _ (by decide)).trans ((g1_n (by decide)).trans ((hF2 _ (by decide)).trans (hM))))))))) _).trans (hrn)) ?_
                            refine z_N_ge hx hb (a := i) (b := n) (tgt := 71) dX12_hardest_40 rfl rfl (by omega) (by omega) (by decide) (fun c_40_2 => ?_) (fun c_40_2 => ?_)
                            · skip
                              refine lv_aload_n hx hb dX12_hardest_71 rfl (lv_at hl 0 rfl) ?_
                              refine lv_aload_n hx hb dX12_hardest_72 rfl (lv_at hl 0 rfl) ?_
                              refine z_get C0 hP (C := RX12) (T := TX12) (N := 21) (ci := 10) (index := 13) (k := 92) (ref := "WetSuitPedalsShoesModel") (zk_lt (rfl : zk 92 = 10) (by decide)) (zd_10 E (rfl : zk 92 = 10) _) rfl (zmi inU_12) 1 (by decide) (zm flRX12_13) rfl (v := .ref (E.1 94)) (rfl) dX12_hardest_73 ?_
                              refine lv_iload_n hx hb dX12_hardest_76 rfl (lv_at hl 1 rfl) ?_
                              refine z_Vi C0 hP hD hA hS (As := [.ref (E.1 94), .int (nI ia)]) (rest := []) (k := 92) (c_X12_finishOf l E _ 94 ia n z_lit_Arr102_94 (by omega) ((congrFun (g1_s _ _ _) _).trans ((hf 0 (by decide)).trans ((s_rd_o _ 0 (by omega)).trans hrn))) (by omega) (by omega)) (cwV 2 hts (zgV zbw mlRX12_156 imX12_finishOf seX12_finishOf iniRX12 coX12_finishOf) rfl rfl rfl (by decide +kernel) ⟨Nat.le_of_ble_eq_true rfl, Nat.le_of_ble_eq_true rfl⟩) (zk_lt (rfl : zk 92 = 10) (by decide)) (zd_10 E (rfl : zk 92 = 10) _) rfl rfl rfl hl.1 rfl (Nat.le_of_ble_eq_true rfl) dX12_hardest_77 ⟨Nat.zero_le _, Nat.zero_le _⟩ (fun r59 G59 H locs hw59 hP hS => ?_)
                              obtain ⟨hr59, hF59, hrow59⟩ := hw59
                              rw [show (g1 G58 94 f) 94 = f from g1_s _ _ _] at hr59 hrow59
                              refine lv_istore_n (lv' := [(3, .int r59), (0, .ref (E.1 92)), (1, .int (nI ia)), (2, .int (1 : Int32))]) hx hb dX12_hardest_80 rfl hl (by decide) rfl (fun ls hl => ?_)
                              refine lv_aload_n hx hb dX12_hardest_81 rfl (lv_at hl 1 rfl) ?_
                              refine z_get C0 hP (C := RX12) (T := TX12) (N := 21) (ci := 10) (index := 9) (k := 92) (ref := "WetSuitPedalsShoesModel") (zk_lt (rfl : zk 92 = 10) (by decide)) (zd_10 E (rfl : zk 92 = 10) _) rfl (zmi inU_12) 0 (by decide) (zm flRX12_9) rfl (v := .ref (E.1 93)) (rfl) dX12_hardest_82 ?_
                              refine lv_iconst (v := (0 : Int32)) hx hb dX12_hardest_85 (by decide) ?_
                              refine z_iald C0 hP (k := 93) (i := 0) (v := (nI n)) (rfl : zk 93 = 11) (Nat.lt_of_lt_of_eq (show 0 < 102 by decide) (rfl : zl 93 = 102).symm) rfl dX12_hardest_86 ((congrFun ((hF59 _ (by decide)).trans ((g1_n (by decide)).trans ((hF58 _ (by decide)).trans ((hF41 _ (by decide)).trans ((g1_n (by decide)).trans ((hF40 _ (by decide)).trans ((hF3 _ (by decide)).trans ((g1_n (by decide)).trans ((hF2 _ (by decide)).trans (hM)))))))))) _).trans (hrn)) ?_
                              refine z_0_ne hx hb (a := n) (tgt := 103) dX12_hardest_87 rfl (by omega) (by decide) (fun c_87_2 => ?_) (fun c_87_2 => ?_)
                              · skip
                                refine lv_aload_n hx hb dX12_hardest_103 rfl (lv_at hl 1 rfl) ?_
                                refine z_get C0 hP (C := RX12) (T := TX12) (N := 21) (ci := 10) (index := 34) (k := 92) (ref := "WetSuitPedalsShoesModel") (zk_lt (rfl : zk 92 = 10) (by decide)) (zd_10 E (rfl : zk 92 = 10) _) rfl (zmi inU_12) 11 (by decide) (zm flRX12_34) rfl (v := .ref (E.1 101)) (rfl) dX12_hardest_104 ?_
                                refine lv_aload_n hx hb dX12_hardest_107 rfl (lv_at hl 1 rfl) ?_
                                refine z_get C0 hP (C := RX12) (T := TX12) (N := 21) (ci := 10) (index := 9) (k := 92) (ref := "WetSuitPedalsShoesModel") (zk_lt (rfl : zk 92 = 10) (by decide)) (zd_10 E (rfl : zk 92 = 10) _) rfl (zmi inU_12) 0 (by decide) (zm flRX12_9) rfl (v := .ref (E.1 93)) (rfl) dX12_hardest_108 ?_
                                refine lv_iconst (v := (0 : Int32)) hx hb dX12_hardest_111 (by decide) ?_
                                refine z_iald C0 hP (k := 93) (i := 0) (v := (nI n)) (rfl : zk 93 = 11) (Nat.lt_of_lt_of_eq (show 0 < 102 by decide) (rfl : zl 93 = 102).symm) rfl dX12_hardest_112 ((congrFun ((hF59 _ (by decide)).trans ((g1_n (by decide)).trans ((hF58 _ (by decide)).trans ((hF41 _ (by decide)).trans ((g1_n (by decide)).trans ((hF40 _ (by decide)).trans ((hF3 _ (by decide)).trans ((g1_n (by decide)).trans ((hF2 _ (by decide)).trans (hM)))))))))) _).trans (hrn)) ?_
                                refine lv_iconst (v := (1 : Int32)) hx hb dX12_hardest_113 (by decide) ?_
                                refine z_isub hx hb (a := n) (b := 1) (n := n - 1) dX12_hardest_114 rfl rfl (by omega) (by omega) ?_
                                refine z_iald C0 hP (k := 101) (i := n - 1) (v := ((m_run f ia (-1) (n - 1 + 1)).1)) (rfl : zk 101 = 11) (Nat.lt_of_lt_of_eq (show n - 1 < 10 by omega) (rfl : zl 101 = 10).symm) rfl dX12_hardest_115 ((hrow59 (n - 1) (by omega)).2.1) ?_
                                refine lv_istore (lv' := [(4, .int ((m_run f ia (-1) (n - 1 + 1)).1)), (3, .int r59), (0, .ref (E.1 92)), (1, .int (nI ia)), (2, .int (1 : Int32))]) hx hb dX12_hardest_116 hl (by decide) rfl (fun ls hl => ?_)
                                refine lv_iload hx hb dX12_hardest_118 (lv_at hl 0 rfl) ?_
                                refine lv_if_le (tgt := 125) hx hb dX12_hardest_120 (by decide) (fun c_120_2 => ?_) (fun c_120_2 => ?_)
                                · skip
                                  have d_120_2 := Int32.not_lt.mpr c_120_2
                                  have e_120_2 := q_hd_m (v := (1 : Int32)) c_87_2 hin c_40_2 (by omega) (by omega) hf
                                  rw [← e_120_2] at d_120_2
                                  refine lv_iinc (v := (0 : Int32)) (lv' := [(2, .int (0 : Int32)), (4, .int ((m_run f ia (-1) (n - 1 + 1)).1)), (3, .int r59), (0, .ref (E.1 92)), (1, .int (nI ia))]) hx hb dX12_hardest_125 hl (k := 4) rfl (by decide) (by decide) rfl (fun ls hl => ?_)
                                  refine lv_goto (tgt := 16) hx hb dX12_hardest_128 (by decide) ?_
                                  refine lv_iload_n hx hb dX12_hardest_16 rfl (lv_at hl 0 rfl) ?_
                                  refine lv_if_lt (tgt := 131) hx hb dX12_hardest_17 (by decide) (fun h_ => absurd h_ (by decide)) (fun _ => ?_)
                                  refine lv_aload_n hx hb dX12_hardest_20 rfl (lv_at hl 3 rfl) ?_
                                  refine z_get C0 hP (C := RX12) (T := TX12) (N := 21) (ci := 10) (index := 9) (k := 92) (ref := "WetSuitPedalsShoesModel") (zk_lt (rfl : zk 92 = 10) (by decide)) (zd_10 E (rfl : zk 92 = 10) _) rfl (zmi inU_12) 0 (by decide) (zm flRX12_9) rfl (v := .ref (E.1 93)) (rfl) dX12_hardest_21 ?_
                                  refine lv_aload_n hx hb dX12_hardest_24 rfl (lv_at hl 3 rfl) ?_
                                  refine z_get C0 hP (C := RX12) (T := TX12) (N := 21) (ci := 10) (index := 13) (k := 92) (ref := "WetSuitPedalsShoesModel") (zk_lt (rfl : zk 92 = 10) (by decide)) (zd_10 E (rfl : zk 92 = 10) _) rfl (zmi inU_12) 1 (by decide) (zm flRX12_13) rfl (v := .ref (E.1 94)) (rfl) dX12_hardest_25 ?_
                                  refine z_Sv C0 hP hD hA hS (As := [.ref (E.1 93), .ref (E.1 94)]) (rest := []) (c_X12_lays l E _ 93 94 z_lit_Arr102_93 z_lit_Arr102_94 (by decide)) (va_cwS 2 hts (zgS zbw mlRX12_149 stX12_lays iniRX12 coX12_lays) rfl rfl rfl (by decide +kernel) ⟨Nat.le_of_ble_eq_true rfl, Nat.le_of_ble_eq_true rfl⟩) rfl hl.1 rfl (Nat.le_of_ble_eq_true rfl) dX12_hardest_28 ⟨Nat.zero_le _, Nat.zero_le _⟩ (fun G60 H locs hw60 hP hS => ?_)
                                  obtain ⟨hF60, hcp60⟩ := hw60
                                  refine lv_iconst (v := (0 : Int32)) hx hb dX12_hardest_31 (by decide) ?_
                                  refine lv_istore_n (lv' := [(3, .int (0 : Int32)), (2, .int (0 : Int32)), (4, .int ((m_run f ia (-1) (n - 1 + 1)).1)), (0, .ref (E.1 92)), (1, .int (nI ia))]) hx hb dX12_hardest_32 rfl hl (by decide) rfl (fun ls hl => ?_)
                                  have cut_33 : ∀ (fuel : Nat), ∀ (i : Nat) (f : Nat → Int32) (H : Heap) (locs : List Loc) (ls : Array Slot), (i ≤ n) → (∀ j, j < 102 → f j = s_rd r ia (0 : Int32) i j) → zP E (g1 G60 94 f) H → va_S (zA E s_.heap.size) s_.heap H locs → lv_has ls 5 [(0, .ref (E.1 92)), (1, .int (nI ia)), (2, .int (0 : Int32)), (3, .int (nI i))] → n - i < fuel → W p_ l e_ ({ frames := 6, cells := 0, slots := 0, locals := 142 } : Room) s_ m_ a_ b_ me_ c_ H locs 0 0 Q_ (F0 m_ 33 ls []) := by
                                    intro fuel
                                    induction fuel with
                                    | zero =>
                                      intro i  f  H locs ls hin hf hP hS hl hfu
                                      exact absurd hfu (Nat.not_lt_zero _)
                                    | succ fuel ih_33 =>
                                      intro i  f  H locs ls hin hf hP hS hl hfu_33
                                      refine lv_iload_n hx hb dX12_hardest_33 rfl (lv_at hl 3 rfl) ?_
                                      refine lv_aload_n hx hb dX12_hardest_34 rfl (lv_at hl 0 rfl) ?_
                                      refine z_get C0 hP (C := RX12) (T := TX12) (N := 21) (ci := 10) (index := 9) (k := 92) (ref := "WetSuitPedalsShoesModel") (zk_lt (rfl : zk 92 = 10) (by decide)) (zd_10 E (rfl : zk 92 = 10) _) rfl (zmi inU_12) 0 (by decide) (zm flRX12_9) rfl (v := .ref (E.1 93)) (rfl) dX12_hardest_35 ?_
                                      refine lv_iconst (v := (0 : Int32)) hx hb dX12_hardest_38 (by decide) ?_
                                      refine z_iald C0 hP (k := 93) (i := 0) (v := (nI n)) (rfl : zk 93 = 11) (Nat.lt_of_lt_of_eq (show 0 < 102 by decide) (rfl : zl 93 = 102).symm) rfl dX12_hardest_39 ((congrFun ((g1_n (by decide)).trans ((hF60 _ (by decide)).trans ((hF59 _ (by decide)).trans ((g1_n (by decide)).trans ((hF58 _ (by decide)).trans ((hF41 _ (by decide)).trans ((g1_n (by decide)).trans ((hF40 _ (by decide)).trans ((hF3 _ (by decide)).trans ((g1_n (by decide)).trans ((hF2 _ (by decide)).trans (hM)))))))))))) _).trans (hrn)) ?_
                                      refine z_N_ge hx hb (a := i) (b := n) (tgt := 71) dX12_hardest_40 rfl rfl (by omega) (by omega) (by decide) (fun c_40_3 => ?_) (fun c_40_3 => ?_)
                                      · skip
                                        refine lv_aload_n hx hb dX12_hardest_71 rfl (lv_at hl 0 rfl) ?_
                                        refine lv_aload_n hx hb dX12_hardest_72 rfl (lv_at hl 0 rfl) ?_
                                        refine z_get C0 hP (C := RX12) (T := TX12) (N := 21) (ci := 10) (index := 13) (k := 92) (ref := "WetSuitPedalsShoesModel") (zk_lt (rfl : zk 92 = 10) (by decide)) (zd_10 E (rfl : zk 92 = 10) _) rfl (zmi inU_12) 1 (by decide) (zm flRX12_13) rfl (v := .ref (E.1 94)) (rfl) dX12_hardest_73 ?_
                                        refine lv_iload_n hx hb dX12_hardest_76 rfl (lv_at hl 1 rfl) ?_
                                        refine z_Vi C0 hP hD hA hS (As := [.ref (E.1 94), .int (nI ia)]) (rest := []) (k := 92) (c_X12_finishOf l E _ 94 ia n z_lit_Arr102_94 (by omega) ((congrFun (g1_s _ _ _) _).trans ((hf 0 (by decide)).trans ((s_rd_o _ 0 (by omega)).trans hrn))) (by omega) (by omega)) (cwV 2 hts (zgV zbw mlRX12_156 imX12_finishOf seX12_finishOf iniRX12 coX12_finishOf) rfl rfl rfl (by decide +kernel) ⟨Nat.le_of_ble_eq_true rfl, Nat.le_of_ble_eq_true rfl⟩) (zk_lt (rfl : zk 92 = 10) (by decide)) (zd_10 E (rfl : zk 92 = 10) _) rfl rfl rfl hl.1 rfl (Nat.le_of_ble_eq_true rfl) dX12_hardest_77 ⟨Nat.zero_le _, Nat.zero_le _⟩ (fun r61 G61 H locs hw61 hP hS => ?_)
                                        obtain ⟨hr61, hF61, hrow61⟩ := hw61
                                        rw [show (g1 G60 94 f) 94 = f from g1_s _ _ _] at hr61 hrow61
                                        refine lv_istore_n (lv' := [(3, .int r61), (0, .ref (E.1 92)), (1, .int (nI ia)), (2, .int (0 : Int32))]) hx hb dX12_hardest_80 rfl hl (by decide) rfl (fun ls hl => ?_)
                                        refine lv_aload_n hx hb dX12_hardest_81 rfl (lv_at hl 1 rfl) ?_
                                        refine z_get C0 hP (C := RX12) (T := TX12) (N := 21) (ci := 10) (index := 9) (k := 92) (ref := "WetSuitPedalsShoesModel") (zk_lt (rfl : zk 92 = 10) (by decide)) (zd_10 E (rfl : zk 92 = 10) _) rfl (zmi inU_12) 0 (by decide) (zm flRX12_9) rfl (v := .ref (E.1 93)) (rfl) dX12_hardest_82 ?_
                                        refine lv_iconst (v := (0 : Int32)) hx hb dX12_hardest_85 (by decide) ?_
                                        refine z_iald C0 hP (k := 93) (i := 0) (v := (nI n)) (rfl : zk 93 = 11) (Nat.lt_of_lt_of_eq (show 0 < 102 by decide) (rfl : zl 93 = 102).symm) rfl dX12_hardest_86 ((congrFun ((hF61 _ (by decide)).trans ((g1_n (by decide)).trans ((hF60 _ (by decide)).trans ((hF59 _ (by decide)).trans ((g1_n (by decide)).trans ((hF58 _ (by decide)).trans ((hF41 _ (by decide)).trans ((g1_n (by decide)).trans ((hF40 _ (by decide)).trans ((hF3 _ (by decide)).trans ((g1_n (by decide)).trans ((hF2 _ (by decide)).trans (hM))))))))))))) _).trans (hrn)) ?_
                                        refine z_0_ne hx hb (a := n) (tgt := 103) dX12_hardest_87 rfl (by omega) (by decide) (fun c_87_3 => ?_) (fun c_87_3 => ?_)
                                        · skip
                                          refine lv_aload_n hx hb dX12_hardest_103 rfl (lv_at hl 1 rfl) ?_
                                          refine z_get C0 hP (C := RX12) (T := TX12) (N := 21) (ci := 10) (index := 34) (k := 92) (ref := "WetSuitPedalsShoesModel") (zk_lt (rfl : zk 92 = 10) (by decide)) (zd_10 E (rfl : zk 92 = 10) _) rfl (zmi inU_12) 11 (by decide) (zm flRX12_34) rfl (v := .ref (E.1 101)) (rfl) dX12_hardest_104 ?_
                                          refine lv_aload_n hx hb dX12_hardest_107 rfl (lv_at hl 1 rfl) ?_
                                          refine z_get C0 hP (C := RX12) (T := TX12) (N := 21) (ci := 10) (index := 9) (k := 92) (ref := "WetSuitPedalsShoesModel") (zk_lt (rfl : zk 92 = 10) (by decide)) (zd_10 E (rfl : zk 92 = 10) _) rfl (zmi inU_12) 0 (by decide) (zm flRX12_9) rfl (v := .ref (E.1 93)) (rfl) dX12_hardest_108 ?_
                                          refine lv_iconst (v := (0 : Int32)) hx hb dX12_hardest_111 (by decide) ?_
                                          refine z_iald C0 hP (k := 93) (i := 0) (v := (nI n)) (rfl : zk 93 = 11) (Nat.lt_of_lt_of_eq (show 0 < 102 by decide) (rfl : zl 93 = 102).symm) rfl dX12_hardest_112 ((congrFun ((hF61 _ (by decide)).trans ((g1_n (by decide)).trans ((hF60 _ (by decide)).trans ((hF59 _ (by decide)).trans ((g1_n (by decide)).trans ((hF58 _ (by decide)).trans ((hF41 _ (by decide)).trans ((g1_n (by decide)).trans ((hF40 _ (by decide)).trans ((hF3 _ (by decide)).trans ((g1_n (by decide)).trans ((hF2 _ (by decide)).trans (hM))))))))))))) _).trans (hrn)) ?_
                                          refine lv_iconst (v := (1 : Int32)) hx hb dX12_hardest_113 (by decide) ?_
                                          refine z_isub hx hb (a := n) (b := 1) (n := n - 1) dX12_hardest_114 rfl rfl (by omega) (by omega) ?_
                                          refine z_iald C0 hP (k := 101) (i := n - 1) (v := ((m_run f ia (-1) (n - 1 + 1)).1)) (rfl : zk 101 = 11) (Nat.lt_of_lt_of_eq (show n - 1 < 10 by omega) (rfl : zl 101 = 10).symm) rfl dX12_hardest_115 ((hrow61 (n - 1) (by omega)).2.1) ?_
                                          refine lv_istore (lv' := [(4, .int ((m_run f ia (-1) (n - 1 + 1)).1)), (3, .int r61), (0, .ref (E.1 92)), (1, .int (nI ia)), (2, .int (0 : Int32))]) hx hb dX12_hardest_116 hl (by decide) rfl (fun ls hl => ?_)
                                          refine lv_iload hx hb dX12_hardest_118 (lv_at hl 0 rfl) ?_
                                          refine lv_if_le (tgt := 125) hx hb dX12_hardest_120 (by decide) (fun c_120_3 => ?_) (fun c_120_3 => ?_)
                                          · skip
                                            have d_120_3 := Int32.not_lt.mpr c_120_3
                                            have e_120_3 := q_hd_m (v := (0 : Int32)) c_87_3 hin c_40_3 (by omega) (by omega) hf
                                            rw [← e_120_3] at d_120_3
                                            refine lv_iinc (v := (-1 : Int32)) (lv' := [(2, .int (-1 : Int32)), (4, .int ((m_run f ia (-1) (n - 1 + 1)).1)), (3, .int r61), (0, .ref (E.1 92)), (1, .int (nI ia))]) hx hb dX12_hardest_125 hl (k := 4) rfl (by decide) (by decide) rfl (fun ls hl => ?_)
                                            refine lv_goto (tgt := 16) hx hb dX12_hardest_128 (by decide) ?_
                                            refine lv_iload_n hx hb dX12_hardest_16 rfl (lv_at hl 0 rfl) ?_
                                            refine lv_if_lt (tgt := 131) hx hb dX12_hardest_17 (by decide) (fun _ => ?_) (fun h_ => absurd (by decide) h_)
                                            refine lv_bipush (v := (-9 : Int32)) hx hb dX12_hardest_131 (by decide) ?_
                                            subst hQ_
                                            exact z_iret C0 hP hS (v := (-9 : Int32)) (by exact zQm_of (k := 0) (by simp [A_hardest, hz_ia, hy_ia, d_120, d_120_1, d_120_2, d_120_3]) (fun k hk => (hF61 k (by omega)).trans ((g1_n (by omega)).trans ((hF60 k (by omega)).trans ((hF59 k (by omega)).trans ((g1_n (by omega)).trans ((hF58 k (by omega)).trans ((hF41 k (by omega)).trans ((g1_n (by omega)).trans ((hF40 k (by omega)).trans ((hF3 k (by omega)).trans ((g1_n (by omega)).trans (hF2 k (by omega))))))))))))) ((hF61 _ (by decide)).trans ((g1_n (by decide)).trans ((hF60 _ (by decide)).trans ((hF59 _ (by decide)).trans ((g1_n (by decide)).trans ((hF58 _ (by decide)).trans ((hF41 _ (by decide)).trans ((g1_n (by decide)).trans ((hF40 _ (by decide)).trans ((hF3 _ (by decide)).trans ((g1_n (by decide)).trans (hF2 _ (by decide)))))))))))))) dX12_hardest_133
                                          · skip
                                            have d_120_3 := Int32.not_le.mp c_120_3
                                            have e_120_3 := q_hd_m (v := (0 : Int32)) c_87_3 hin c_40_3 (by omega) (by omega) hf
                                            rw [← e_120_3] at d_120_3
                                            refine lv_iload_n hx hb dX12_hardest_123 rfl (lv_at hl 4 rfl) ?_
                                            subst hQ_
                                            exact z_iret C0 hP hS (v := (0 : Int32)) (by exact zQm_of (k := 0) (by simp [A_hardest, hz_ia, hy_ia, d_120, d_120_1, d_120_2, d_120_3]) (fun k hk => (hF61 k (by omega)).trans ((g1_n (by omega)).trans ((hF60 k (by omega)).trans ((hF59 k (by omega)).trans ((g1_n (by omega)).trans ((hF58 k (by omega)).trans ((hF41 k (by omega)).trans ((g1_n (by omega)).trans ((hF40 k (by omega)).trans ((hF3 k (by omega)).trans ((g1_n (by omega)).trans (hF2 k (by omega))))))))))))) ((hF61 _ (by decide)).trans ((g1_n (by decide)).trans ((hF60 _ (by decide)).trans ((hF59 _ (by decide)).trans ((g1_n (by decide)).trans ((hF58 _ (by decide)).trans ((hF41 _ (by decide)).trans ((g1_n (by decide)).trans ((hF40 _ (by decide)).trans ((hF3 _ (by decide)).trans ((g1_n (by decide)).trans (hF2 _ (by decide)))))))))))))) dX12_hardest_124
                                        · skip
                                          refine lv_aload_n hx hb dX12_hardest_90 rfl (lv_at hl 1 rfl) ?_
                                          refine z_get C0 hP (C := RX12) (T := TX12) (N := 21) (ci := 10) (index := 9) (k := 92) (ref := "WetSuitPedalsShoesModel") (zk_lt (rfl : zk 92 = 10) (by decide)) (zd_10 E (rfl : zk 92 = 10) _) rfl (zmi inU_12) 0 (by decide) (zm flRX12_9) rfl (v := .ref (E.1 93)) (rfl) dX12_hardest_91 ?_
                                          refine lv_iload_n hx hb dX12_hardest_94 rfl (lv_at hl 2 rfl) ?_
                                          refine lv_iconst (v := (3 : Int32)) hx hb dX12_hardest_95 (by decide) ?_
                                          refine z_Si C0 hP hD hA hS (As := [.int (nI ia), .int (3 : Int32)]) (rest := [.ref (E.1 93)]) (c_X12_athleteAt l E _ ia 3) (va_cwS 2 hts (zgS zbw mlRX12_70 stX12_athleteAt iniRX12 coX12_athleteAt) rfl rfl rfl (by decide +kernel) ⟨Nat.le_of_ble_eq_true rfl, Nat.le_of_ble_eq_true rfl⟩) rfl hl.1 rfl (Nat.le_of_ble_eq_true rfl) dX12_hardest_96 ⟨Nat.zero_le _, Nat.zero_le _⟩ (fun r62 G62 H locs hw62 hP hS => ?_)
                                          obtain ⟨hr62, rfl⟩ := hw62
                                          subst hr62
                                          refine z_eqi (y := (nI (35 + 4 * ia))) (congrArg nI (by omega)) ?_
                                          refine z_iald C0 hP (k := 93) (i := 35 + 4 * ia) (v := (r (35 + 4 * ia))) (rfl : zk 93 = 11) (Nat.lt_of_lt_of_eq (show 35 + 4 * ia < 102 by omega) (rfl : zl 93 = 102).symm) rfl dX12_hardest_99 (congrFun ((hF61 _ (by decide)).trans ((g1_n (by decide)).trans ((hF60 _ (by decide)).trans ((hF59 _ (by decide)).trans ((g1_n (by decide)).trans ((hF58 _ (by decide)).trans ((hF41 _ (by decide)).trans ((g1_n (by decide)).trans ((hF40 _ (by decide)).trans ((hF3 _ (by decide)).trans ((g1_n (by decide)).trans ((hF2 _ (by decide)).trans (hM))))))))))))) _) ?_
                                          refine lv_goto (tgt := 116) hx hb dX12_hardest_100 (by decide) ?_
                                          refine lv_istore (lv' := [(4, .int (r (35 + 4 * ia))), (3, .int r61), (0, .ref (E.1 92)), (1, .int (nI ia)), (2, .int (0 : Int32))]) hx hb dX12_hardest_116 hl (by decide) rfl (fun ls hl => ?_)
                                          refine lv_iload hx hb dX12_hardest_118 (lv_at hl 0 rfl) ?_
                                          refine lv_if_le (tgt := 125) hx hb dX12_hardest_120 (by decide) (fun c_120_3 => ?_) (fun c_120_3 => ?_)
                                          · skip
                                            have d_120_3 := Int32.not_lt.mpr c_120_3
                                            have e_120_3 := q_hd_0 (r := r) (a := ia) (v := (0 : Int32)) c_87_3
                                            rw [← e_120_3] at d_120_3
                                            refine lv_iinc (v := (-1 : Int32)) (lv' := [(2, .int (-1 : Int32)), (4, .int (r (35 + 4 * ia))), (3, .int r61), (0, .ref (E.1 92)), (1, .int (nI ia))]) hx hb dX12_hardest_125 hl (k := 4) rfl (by decide) (by decide) rfl (fun ls hl => ?_)
                                            refine lv_goto (tgt := 16) hx hb dX12_hardest_128 (by decide) ?_
                                            refine lv_iload_n hx hb dX12_hardest_16 rfl (lv_at hl 0 rfl) ?_
                                            refine lv_if_lt (tgt := 131) hx hb dX12_hardest_17 (by decide) (fun _ => ?_) (fun h_ => absurd (by decide) h_)
                                            refine lv_bipush (v := (-9 : Int32)) hx hb dX12_hardest_131 (by decide) ?_
                                            subst hQ_
                                            exact z_iret C0 hP hS (v := (-9 : Int32)) (by exact zQm_of (k := 0) (by simp [A_hardest, hz_ia, hy_ia, d_120, d_120_1, d_120_2, d_120_3]) (fun k hk => (hF61 k (by omega)).trans ((g1_n (by omega)).trans ((hF60 k (by omega)).trans ((hF59 k (by omega)).trans ((g1_n (by omega)).trans ((hF58 k (by omega)).trans ((hF41 k (by omega)).trans ((g1_n (by omega)).trans ((hF40 k (by omega)).trans ((hF3 k (by omega)).trans ((g1_n (by omega)).trans (hF2 k (by omega))))))))))))) ((hF61 _ (by decide)).trans ((g1_n (by decide)).trans ((hF60 _ (by decide)).trans ((hF59 _ (by decide)).trans ((g1_n (by decide)).trans ((hF58 _ (by decide)).trans ((hF41 _ (by decide)).trans ((g1_n (by decide)).trans ((hF40 _ (by decide)).trans ((hF3 _ (by decide)).trans ((g1_n (by decide)).trans (hF2 _ (by decide)))))))))))))) dX12_hardest_133
                                          · skip
                                            have d_120_3 := Int32.not_le.mp c_120_3
                                            have e_120_3 := q_hd_0 (r := r) (a := ia) (v := (0 : Int32)) c_87_3
                                            rw [← e_120_3] at d_120_3
                                            refine lv_iload_n hx hb dX12_hardest_123 rfl (lv_at hl 4 rfl) ?_
                                            subst hQ_
                                            exact z_iret C0 hP hS (v := (0 : Int32)) (by exact zQm_of (k := 0) (by simp [A_hardest, hz_ia, hy_ia, d_120, d_120_1, d_120_2, d_120_3]) (fun k hk => (hF61 k (by omega)).trans ((g1_n (by omega)).trans ((hF60 k (by omega)).trans ((hF59 k (by omega)).trans ((g1_n (by omega)).trans ((hF58 k (by omega)).trans ((hF41 k (by omega)).trans ((g1_n (by omega)).trans ((hF40 k (by omega)).trans ((hF3 k (by omega)).trans ((g1_n (by omega)).trans (hF2 k (by omega))))))))))))) ((hF61 _ (by decide)).trans ((g1_n (by decide)).trans ((hF60 _ (by decide)).trans ((hF59 _ (by decide)).trans ((g1_n (by decide)).trans ((hF58 _ (by decide)).trans ((hF41 _ (by decide)).trans ((g1_n (by decide)).trans ((hF40 _ (by decide)).trans ((hF3 _ (by decide)).trans ((g1_n (by decide)).trans (hF2 _ (by decide)))))))))))))) dX12_hardest_124
                                      · skip
                                        refine lv_aload_n hx hb dX12_hardest_43 rfl (lv_at hl 0 rfl) ?_
                                        refine z_get C0 hP (C := RX12) (T := TX12) (N := 21) (ci := 10) (index := 9) (k := 92) (ref := "WetSuitPedalsShoesModel") (zk_lt (rfl : zk 92 = 10) (by decide)) (zd_10 E (rfl : zk 92 = 10) _) rfl (zmi inU_12) 0 (by decide) (zm flRX12_9) rfl (v := .ref (E.1 93)) (rfl) dX12_hardest_44 ?_
                                        refine lv_iload_n hx hb dX12_hardest_47 rfl (lv_at hl 3 rfl) ?_
                                        refine z_Si C0 hP hD hA hS (As := [.ref (E.1 93), .int (nI i)]) (rest := []) (c_X12_isRide l E _ 93 i z_lit_Arr102_93 (by omega)) (va_cwS 2 hts (zgS zbw mlRX12_73 stX12_isRide iniRX12 coX12_isRide) rfl rfl rfl (by decide +kernel) ⟨Nat.le_of_ble_eq_true rfl, Nat.le_of_ble_eq_true rfl⟩) rfl hl.1 rfl (Nat.le_of_ble_eq_true rfl) dX12_hardest_48 ⟨Nat.zero_le _, Nat.zero_le _⟩ (fun r63 G63 H locs hw63 hP hS => ?_)
                                        obtain ⟨hr63, rfl⟩ := hw63
                                        have hr63 : s_isRide (r (2 + 3 * i)) = _ := (congrArg (fun z_ : Nat → Int32 => s_isRide (z_ (2 + 3 * i))) (show (g1 G60 94 f) 93 = r from (g1_n (by decide)).trans ((hF60 _ (by decide)).trans ((hF59 _ (by decide)).trans ((g1_n (by decide)).trans ((hF58 _ (by decide)).trans ((hF41 _ (by decide)).trans ((g1_n (by decide)).trans ((hF40 _ (by decide)).trans ((hF3 _ (by decide)).trans ((g1_n (by decide)).trans ((hF2 _ (by decide)).trans (hM))))))))))))).symm.trans hr63
                                        subst hr63
                                        refine lv_if_eq (tgt := 65) hx hb dX12_hardest_51 (by decide) (fun c_51 => ?_) (fun c_51 => ?_)
                                        · skip
                                          refine lv_iinc (v := (nI (i + 1))) (lv' := [(3, .int (nI (i + 1))), (0, .ref (E.1 92)), (1, .int (nI ia)), (2, .int (0 : Int32))]) hx hb dX12_hardest_65 hl (k := 3) rfl (z_inc (by decide)) (by decide) rfl (fun ls hl => ?_)
                                          refine lv_goto (tgt := 33) hx hb dX12_hardest_68 (by decide) ?_
                                          exact ih_33 (i + 1) f _ _ _ (by first | assumption | omega) (by intro j hj; rw [s_rd_n (fun q => by rw [c_51] at q; exact absurd q (by decide))]; exact hf j hj) hP hS (lv_sub hl [1, 2, 3, 0] rfl) (by omega)
                                        · skip
                                          refine lv_aload_n hx hb dX12_hardest_54 rfl (lv_at hl 0 rfl) ?_
                                          refine z_get C0 hP (C := RX12) (T := TX12) (N := 21) (ci := 10) (index := 13) (k := 92) (ref := "WetSuitPedalsShoesModel") (zk_lt (rfl : zk 92 = 10) (by decide)) (zd_10 E (rfl : zk 92 = 10) _) rfl (zmi inU_12) 1 (by decide) (zm flRX12_13) rfl (v := .ref (E.1 94)) (rfl) dX12_hardest_55 ?_
                                          refine lv_iload_n hx hb dX12_hardest_58 rfl (lv_at hl 1 rfl) ?_
                                          refine lv_iload_n hx hb dX12_hardest_59 rfl (lv_at hl 3 rfl) ?_
                                          refine z_Si C0 hP hD hA hS (As := [.int (nI ia), .int (nI i)]) (rest := [.ref (E.1 94)]) (c_X12_tried l E _ ia i) (va_cwS 2 hts (zgS zbw mlRX12_91 stX12_tried iniRX12 coX12_tried) rfl rfl rfl (by decide +kernel) ⟨Nat.le_of_ble_eq_true rfl, Nat.le_of_ble_eq_true rfl⟩) rfl hl.1 rfl (Nat.le_of_ble_eq_true rfl) dX12_hardest_60 ⟨Nat.zero_le _, Nat.zero_le _⟩ (fun r64 G64 H locs hw64 hP hS => ?_)
                                          obtain ⟨hr64, rfl⟩ := hw64
                                          subst hr64
                                          refine z_eqi (y := (nI (52 + 10 * ia + i))) (congrArg nI (by omega)) ?_
                                          refine lv_iload_n hx hb dX12_hardest_63 rfl (lv_at hl 2 rfl) ?_
                                          refine z_iast C0 hP hD hS (k := 94) (i := 52 + 10 * ia + i) (v := (0 : Int32)) (F := f) (g1_s _ _ _) (rfl : zk 94 = 11) (Nat.lt_of_lt_of_eq (show 52 + 10 * ia + i < 102 by omega) (rfl : zl 94 = 102).symm) rfl dX12_hardest_64 (fun H locs hP hS => ?_)
                                          have hP := zP_eq (g1_t _ _ _ _ : _ = (g1 G60 94 (upd f (52 + 10 * ia + i) (0 : Int32)))) hP
                                          refine lv_iinc (v := (nI (i + 1))) (lv' := [(3, .int (nI (i + 1))), (0, .ref (E.1 92)), (1, .int (nI ia)), (2, .int (0 : Int32))]) hx hb dX12_hardest_65 hl (k := 3) rfl (z_inc (by decide)) (by decide) rfl (fun ls hl => ?_)
                                          refine lv_goto (tgt := 33) hx hb dX12_hardest_68 (by decide) ?_
                                          exact ih_33 (i + 1) (upd f (52 + 10 * ia + i) (0 : Int32)) _ _ _ (by first | assumption | omega) (by intro j hj; rw [s_rd_y (s_ride_ne c_51)]; exact upd_c hf j hj) hP hS (lv_sub hl [1, 2, 3, 0] rfl) (by omega)
                                  exact cut_33 (_ + 1) 0 (G60 94) _ _ _ (by first | assumption | omega) (by exact (fun j hj => (hcp60 j hj).trans (congrFun ((hF59 _ (by decide)).trans ((g1_n (by decide)).trans ((hF58 _ (by decide)).trans ((hF41 _ (by decide)).trans ((g1_n (by decide)).trans ((hF40 _ (by decide)).trans ((hF3 _ (by decide)).trans ((g1_n (by decide)).trans ((hF2 _ (by decide)).trans (hM)))))))))) j))) (zP_eq ((g1_e G60 94).symm) hP) hS (lv_sub hl [3, 4, 1, 0] rfl) (Nat.lt_succ_self _)
                                · skip
                                  have d_120_2 := Int32.not_le.mp c_120_2
                                  have e_120_2 := q_hd_m (v := (1 : Int32)) c_87_2 hin c_40_2 (by omega) (by omega) hf
                                  rw [← e_120_2] at d_120_2
                                  refine lv_iload_n hx hb dX12_hardest_123 rfl (lv_at hl 4 rfl) ?_
                                  subst hQ_
                                  exact z_iret C0 hP hS (v := (1 : Int32)) (by exact zQm_of (k := 0) (by simp [A_hardest, hz_ia, hy_ia, d_120, d_120_1, d_120_2]) (fun k hk => (hF59 k (by omega)).trans ((g1_n (by omega)).trans ((hF58 k (by omega)).trans ((hF41 k (by omega)).trans ((g1_n (by omega)).trans ((hF40 k (by omega)).trans ((hF3 k (by omega)).trans ((g1_n (by omega)).trans (hF2 k (by omega)))))))))) ((hF59 _ (by decide)).trans ((g1_n (by decide)).trans ((hF58 _ (by decide)).trans ((hF41 _ (by decide)).trans ((g1_n (by decide)).trans ((hF40 _ (by decide)).trans ((hF3 _ (by decide)).trans ((g1_n (by decide)).trans (hF2 _ (by decide))))))))))) dX12_hardest_124
                              · skip
                                refine lv_aload_n hx hb dX12_hardest_90 rfl (lv_at hl 1 rfl) ?_
                                refine z_get C0 hP (C := RX12) (T := TX12) (N := 21) (ci := 10) (index := 9) (k := 92) (ref := "WetSuitPedalsShoesModel") (zk_lt (rfl : zk 92 = 10) (by decide)) (zd_10 E (rfl : zk 92 = 10) _) rfl (zmi inU_12) 0 (by decide) (zm flRX12_9) rfl (v := .ref (E.1 93)) (rfl) dX12_hardest_91 ?_
                                refine lv_iload_n hx hb dX12_hardest_94 rfl (lv_at hl 2 rfl) ?_
                                refine lv_iconst (v := (3 : Int32)) hx hb dX12_hardest_95 (by decide) ?_
                                refine z_Si C0 hP hD hA hS (As := [.int (nI ia), .int (3 : Int32)]) (rest := [.ref (E.1 93)]) (c_X12_athleteAt l E _ ia 3) (va_cwS 2 hts (zgS zbw mlRX12_70 stX12_athleteAt iniRX12 coX12_athleteAt) rfl rfl rfl (by decide +kernel) ⟨Nat.le_of_ble_eq_true rfl, Nat.le_of_ble_eq_true rfl⟩) rfl hl.1 rfl (Nat.le_of_ble_eq_true rfl) dX12_hardest_96 ⟨Nat.zero_le _, Nat.zero_le _⟩ (fun r65 G65 H locs hw65 hP hS => ?_)
                                obtain ⟨hr65, rfl⟩ := hw65
                                subst hr65
                                refine z_eqi (y := (nI (35 + 4 * ia))) (congrArg nI (by omega)) ?_
                                refine z_iald C0 hP (k := 93) (i := 35 + 4 * ia) (v := (r (35 + 4 * ia))) (rfl : zk 93 = 11) (Nat.lt_of_lt_of_eq (show 35 + 4 * ia < 102 by omega) (rfl : zl 93 = 102).symm) rfl dX12_hardest_99 (congrFun ((hF59 _ (by decide)).trans ((g1_n (by decide)).trans ((hF58 _ (by decide)).trans ((hF41 _ (by decide)).trans ((g1_n (by decide)).trans ((hF40 _ (by decide)).trans ((hF3 _ (by decide)).trans ((g1_n (by decide)).trans ((hF2 _ (by decide)).trans (hM)))))))))) _) ?_
                                refine lv_goto (tgt := 116) hx hb dX12_hardest_100 (by decide) ?_
                                refine lv_istore (lv' := [(4, .int (r (35 + 4 * ia))), (3, .int r59), (0, .ref (E.1 92)), (1, .int (nI ia)), (2, .int (1 : Int32))]) hx hb dX12_hardest_116 hl (by decide) rfl (fun ls hl => ?_)
                                refine lv_iload hx hb dX12_hardest_118 (lv_at hl 0 rfl) ?_
                                refine lv_if_le (tgt := 125) hx hb dX12_hardest_120 (by decide) (fun c_120_2 => ?_) (fun c_120_2 => ?_)
                                · skip
                                  have d_120_2 := Int32.not_lt.mpr c_120_2
                                  have e_120_2 := q_hd_0 (r := r) (a := ia) (v := (1 : Int32)) c_87_2
                                  rw [← e_120_2] at d_120_2
                                  refine lv_iinc (v := (0 : Int32)) (lv' := [(2, .int (0 : Int32)), (4, .int (r (35 + 4 * ia))), (3, .int r59), (0, .ref (E.1 92)), (1, .int (nI ia))]) hx hb dX12_hardest_125 hl (k := 4) rfl (by decide) (by decide) rfl (fun ls hl => ?_)
                                  refine lv_goto (tgt := 16) hx hb dX12_hardest_128 (by decide) ?_
                                  refine lv_iload_n hx hb dX12_hardest_16 rfl (lv_at hl 0 rfl) ?_
                                  refine lv_if_lt (tgt := 131) hx hb dX12_hardest_17 (by decide) (fun h_ => absurd h_ (by decide)) (fun _ => ?_)
                                  refine lv_aload_n hx hb dX12_hardest_20 rfl (lv_at hl 3 rfl) ?_
                                  refine z_get C0 hP (C := RX12) (T := TX12) (N := 21) (ci := 10) (index := 9) (k := 92) (ref := "WetSuitPedalsShoesModel") (zk_lt (rfl : zk 92 = 10) (by decide)) (zd_10 E (rfl : zk 92 = 10) _) rfl (zmi inU_12) 0 (by decide) (zm flRX12_9) rfl (v := .ref (E.1 93)) (rfl) dX12_hardest_21 ?_
                                  refine lv_aload_n hx hb dX12_hardest_24 rfl (lv_at hl 3 rfl) ?_
                                  refine z_get C0 hP (C := RX12) (T := TX12) (N := 21) (ci := 10) (index := 13) (k := 92) (ref := "WetSuitPedalsShoesModel") (zk_lt (rfl : zk 92 = 10) (by decide)) (zd_10 E (rfl : zk 92 = 10) _) rfl (zmi inU_12) 1 (by decide) (zm flRX12_13) rfl (v := .ref (E.1 94)) (rfl) dX12_hardest_25 ?_
                                  refine z_Sv C0 hP hD hA hS (As := [.ref (E.1 93), .ref (E.1 94)]) (rest := []) (c_X12_lays l E _ 93 94 z_lit_Arr102_93 z_lit_Arr102_94 (by decide)) (va_cwS 2 hts (zgS zbw mlRX12_149 stX12_lays iniRX12 coX12_lays) rfl rfl rfl (by decide +kernel) ⟨Nat.le_of_ble_eq_true rfl, Nat.le_of_ble_eq_true rfl⟩) rfl hl.1 rfl (Nat.le_of_ble_eq_true rfl) dX12_hardest_28 ⟨Nat.zero_le _, Nat.zero_le _⟩ (fun G66 H locs hw66 hP hS => ?_)
                                  obtain ⟨hF66, hcp66⟩ := hw66
                                  refine lv_iconst (v := (0 : Int32)) hx hb dX12_hardest_31 (by decide) ?_
                                  refine lv_istore_n (lv' := [(3, .int (0 : Int32)), (2, .int (0 : Int32)), (4, .int (r (35 + 4 * ia))), (0, .ref (E.1 92)), (1, .int (nI ia))]) hx hb dX12_hardest_32 rfl hl (by decide) rfl (fun ls hl => ?_)
                                  have cut_33 : ∀ (fuel : Nat), ∀ (i : Nat) (f : Nat → Int32) (H : Heap) (locs : List Loc) (ls : Array Slot), (i ≤ n) → (∀ j, j < 102 → f j = s_rd r ia (0 : Int32) i j) → zP E (g1 G66 94 f) H → va_S (zA E s_.heap.size) s_.heap H locs → lv_has ls 5 [(0, .ref (E.1 92)), (1, .int (nI ia)), (2, .int (0 : Int32)), (3, .int (nI i))] → n - i < fuel → W p_ l e_ ({ frames := 6, cells := 0, slots := 0, locals := 142 } : Room) s_ m_ a_ b_ me_ c_ H locs 0 0 Q_ (F0 m_ 33 ls []) := by
                                    intro fuel
                                    induction fuel with
                                    | zero =>
                                      intro i  f  H locs ls hin hf hP hS hl hfu
                                      exact absurd hfu (Nat.not_lt_zero _)
                                    | succ fuel ih_33 =>
                                      intro i  f  H locs ls hin hf hP hS hl hfu_33
                                      refine lv_iload_n hx hb dX12_hardest_33 rfl (lv_at hl 3 rfl) ?_
                                      refine lv_aload_n hx hb dX12_hardest_34 rfl (lv_at hl 0 rfl) ?_
                                      refine z_get C0 hP (C := RX12) (T := TX12) (N := 21) (ci := 10) (index := 9) (k := 92) (ref := "WetSuitPedalsShoesModel") (zk_lt (rfl : zk 92 = 10) (by decide)) (zd_10 E (rfl : zk 92 = 10) _) rfl (zmi inU_12) 0 (by decide) (zm flRX12_9) rfl (v := .ref (E.1 93)) (rfl) dX12_hardest_35 ?_
                                      refine lv_iconst (v := (0 : Int32)) hx hb dX12_hardest_38 (by decide) ?_
                                      refine z_iald C0 hP (k := 93) (i := 0) (v := (nI n)) (rfl : zk 93 = 11) (Nat.lt_of_lt_of_eq (show 0 < 102 by decide) (rfl : zl 93 = 102).symm) rfl dX12_hardest_39 ((congrFun ((g1_n (by decide)).trans ((hF66 _ (by decide)).trans ((hF59 _ (by decide)).trans ((g1_n (by decide)).trans ((hF58 _ (by decide)).trans ((hF41 _ (by decide)).trans ((g1_n (by decide)).trans ((hF40 _ (by decide)).trans ((hF3 _ (by decide)).trans ((g1_n (by decide)).trans ((hF2 _ (by decide)).trans (hM)))))))))))) _).trans (hrn)) ?_
                                      refine z_N_ge hx hb (a := i) (b := n) (tgt := 71) dX12_hardest_40 rfl rfl (by omega) (by omega) (by decide) (fun c_40_3 => ?_) (fun c_40_3 => ?_)
                                      · skip
                                        refine lv_aload_n hx hb dX12_hardest_71 rfl (lv_at hl 0 rfl) ?_
                                        refine lv_aload_n hx hb dX12_hardest_72 rfl (lv_at hl 0 rfl) ?_
                                        refine z_get C0 hP (C := RX12) (T := TX12) (N := 21) (ci := 10) (index := 13) (k := 92) (ref := "WetSuitPedalsShoesModel") (zk_lt (rfl : zk 92 = 10) (by decide)) (zd_10 E (rfl : zk 92 = 10) _) rfl (zmi inU_12) 1 (by decide) (zm flRX12_13) rfl (v := .ref (E.1 94)) (rfl) dX12_hardest_73 ?_
                                        refine lv_iload_n hx hb dX12_hardest_76 rfl (lv_at hl 1 rfl) ?_
                                        refine z_Vi C0 hP hD hA hS (As := [.ref (E.1 94), .int (nI ia)]) (rest := []) (k := 92) (c_X12_finishOf l E _ 94 ia n z_lit_Arr102_94 (by omega) ((congrFun (g1_s _ _ _) _).trans ((hf 0 (by decide)).trans ((s_rd_o _ 0 (by omega)).trans hrn))) (by omega) (by omega)) (cwV 2 hts (zgV zbw mlRX12_156 imX12_finishOf seX12_finishOf iniRX12 coX12_finishOf) rfl rfl rfl (by decide +kernel) ⟨Nat.le_of_ble_eq_true rfl, Nat.le_of_ble_eq_true rfl⟩) (zk_lt (rfl : zk 92 = 10) (by decide)) (zd_10 E (rfl : zk 92 = 10) _) rfl rfl rfl hl.1 rfl (Nat.le_of_ble_eq_true rfl) dX12_hardest_77 ⟨Nat.zero_le _, Nat.zero_le _⟩ (fun r67 G67 H locs hw67 hP hS => ?_)
                                        obtain ⟨hr67, hF67, hrow67⟩ := hw67
                                        rw [show (g1 G66 94 f) 94 = f from g1_s _ _ _] at hr67 hrow67
                                        refine lv_istore_n (lv' := [(3, .int r67), (0, .ref (E.1 92)), (1, .int (nI ia)), (2, .int (0 : Int32))]) hx hb dX12_hardest_80 rfl hl (by decide) rfl (fun ls hl => ?_)
                                        refine lv_aload_n hx hb dX12_hardest_81 rfl (lv_at hl 1 rfl) ?_
                                        refine z_get C0 hP (C := RX12) (T := TX12) (N := 21) (ci := 10) (index := 9) (k := 92) (ref := "WetSuitPedalsShoesModel") (zk_lt (rfl : zk 92 = 10) (by decide)) (zd_10 E (rfl : zk 92 = 10) _) rfl (zmi inU_12) 0 (by decide) (zm flRX12_9) rfl (v := .ref (E.1 93)) (rfl) dX12_hardest_82 ?_
                                        refine lv_iconst (v := (0 : Int32)) hx hb dX12_hardest_85 (by decide) ?_
                                        refine z_iald C0 hP (k := 93) (i := 0) (v := (nI n)) (rfl : zk 93 = 11) (Nat.lt_of_lt_of_eq (show 0 < 102 by decide) (rfl : zl 93 = 102).symm) rfl dX12_hardest_86 ((congrFun ((hF67 _ (by decide)).trans ((g1_n (by decide)).trans ((hF66 _ (by decide)).trans ((hF59 _ (by decide)).trans ((g1_n (by decide)).trans ((hF58 _ (by decide)).trans ((hF41 _ (by decide)).trans ((g1_n (by decide)).trans ((hF40 _ (by decide)).trans ((hF3 _ (by decide)).trans ((g1_n (by decide)).trans ((hF2 _ (by decide)).trans (hM))))))))))))) _).trans (hrn)) ?_
                                        refine z_0_ne hx hb (a := n) (tgt := 103) dX12_hardest_87 rfl (by omega) (by decide) (fun c_87_3 => ?_) (fun c_87_3 => ?_)
                                        · skip
                                          refine lv_aload_n hx hb dX12_hardest_103 rfl (lv_at hl 1 rfl) ?_
                                          refine z_get C0 hP (C := RX12) (T := TX12) (N := 21) (ci := 10) (index := 34) (k := 92) (ref := "WetSuitPedalsShoesModel") (zk_lt (rfl : zk 92 = 10) (by decide)) (zd_10 E (rfl : zk 92 = 10) _) rfl (zmi inU_12) 11 (by decide) (zm flRX12_34) rfl (v := .ref (E.1 101)) (rfl) dX12_hardest_104 ?_
                                          refine lv_aload_n hx hb dX12_hardest_107 rfl (lv_at hl 1 rfl) ?_
                                          refine z_get C0 hP (C := RX12) (T := TX12) (N := 21) (ci := 10) (index := 9) (k := 92) (ref := "WetSuitPedalsShoesModel") (zk_lt (rfl : zk 92 = 10) (by decide)) (zd_10 E (rfl : zk 92 = 10) _) rfl (zmi inU_12) 0 (by decide) (zm flRX12_9) rfl (v := .ref (E.1 93)) (rfl) dX12_hardest_108 ?_
                                          refine lv_iconst (v := (0 : Int32)) hx hb dX12_hardest_111 (by decide) ?_
                                          refine z_iald C0 hP (k := 93) (i := 0) (v := (nI n)) (rfl : zk 93 = 11) (Nat.lt_of_lt_of_eq (show 0 < 102 by decide) (rfl : zl 93 = 102).symm) rfl dX12_hardest_112 ((congrFun ((hF67 _ (by decide)).trans ((g1_n (by decide)).trans ((hF66 _ (by decide)).trans ((hF59 _ (by decide)).trans ((g1_n (by decide)).trans ((hF58 _ (by decide)).trans ((hF41 _ (by decide)).trans ((g1_n (by decide)).trans ((hF40 _ (by decide)).trans ((hF3 _ (by decide)).trans ((g1_n (by decide)).trans ((hF2 _ (by decide)).trans (hM))))))))))))) _).trans (hrn)) ?_
                                          refine lv_iconst (v := (1 : Int32)) hx hb dX12_hardest_113 (by decide) ?_
                                          refine z_isub hx hb (a := n) (b := 1) (n := n - 1) dX12_hardest_114 rfl rfl (by omega) (by omega) ?_
                                          refine z_iald C0 hP (k := 101) (i := n - 1) (v := ((m_run f ia (-1) (n - 1 + 1)).1)) (rfl : zk 101 = 11) (Nat.lt_of_lt_of_eq (show n - 1 < 10 by omega) (rfl : zl 101 = 10).symm) rfl dX12_hardest_115 ((hrow67 (n - 1) (by omega)).2.1) ?_
                                          refine lv_istore (lv' := [(4, .int ((m_run f ia (-1) (n - 1 + 1)).1)), (3, .int r67), (0, .ref (E.1 92)), (1, .int (nI ia)), (2, .int (0 : Int32))]) hx hb dX12_hardest_116 hl (by decide) rfl (fun ls hl => ?_)
                                          refine lv_iload hx hb dX12_hardest_118 (lv_at hl 0 rfl) ?_
                                          refine lv_if_le (tgt := 125) hx hb dX12_hardest_120 (by decide) (fun c_120_3 => ?_) (fun c_120_3 => ?_)
                                          · skip
                                            have d_120_3 := Int32.not_lt.mpr c_120_3
                                            have e_120_3 := q_hd_m (v := (0 : Int32)) c_87_3 hin c_40_3 (by omega) (by omega) hf
                                            rw [← e_120_3] at d_120_3
                                            refine lv_iinc (v := (-1 : Int32)) (lv' := [(2, .int (-1 : Int32)), (4, .int ((m_run f ia (-1) (n - 1 + 1)).1)), (3, .int r67), (0, .ref (E.1 92)), (1, .int (nI ia))]) hx hb dX12_hardest_125 hl (k := 4) rfl (by decide) (by decide) rfl (fun ls hl => ?_)
                                            refine lv_goto (tgt := 16) hx hb dX12_hardest_128 (by decide) ?_
                                            refine lv_iload_n hx hb dX12_hardest_16 rfl (lv_at hl 0 rfl) ?_
                                            refine lv_if_lt (tgt := 131) hx hb dX12_hardest_17 (by decide) (fun _ => ?_) (fun h_ => absurd (by decide) h_)
                                            refine lv_bipush (v := (-9 : Int32)) hx hb dX12_hardest_131 (by decide) ?_
                                            subst hQ_
                                            exact z_iret C0 hP hS (v := (-9 : Int32)) (by exact zQm_of (k := 0) (by simp [A_hardest, hz_ia, hy_ia, d_120, d_120_1, d_120_2, d_120_3]) (fun k hk => (hF67 k (by omega)).trans ((g1_n (by omega)).trans ((hF66 k (by omega)).trans ((hF59 k (by omega)).trans ((g1_n (by omega)).trans ((hF58 k (by omega)).trans ((hF41 k (by omega)).trans ((g1_n (by omega)).trans ((hF40 k (by omega)).trans ((hF3 k (by omega)).trans ((g1_n (by omega)).trans (hF2 k (by omega))))))))))))) ((hF67 _ (by decide)).trans ((g1_n (by decide)).trans ((hF66 _ (by decide)).trans ((hF59 _ (by decide)).trans ((g1_n (by decide)).trans ((hF58 _ (by decide)).trans ((hF41 _ (by decide)).trans ((g1_n (by decide)).trans ((hF40 _ (by decide)).trans ((hF3 _ (by decide)).trans ((g1_n (by decide)).trans (hF2 _ (by decide)))))))))))))) dX12_hardest_133
                                          · skip
                                            have d_120_3 := Int32.not_le.mp c_120_3
                                            have e_120_3 := q_hd_m (v := (0 : Int32)) c_87_3 hin c_40_3 (by omega) (by omega) hf
                                            rw [← e_120_3] at d_120_3
                                            refine lv_iload_n hx hb dX12_hardest_123 rfl (lv_at hl 4 rfl) ?_
                                            subst hQ_
                                            exact z_iret C0 hP hS (v := (0 : Int32)) (by exact zQm_of (k := 0) (by simp [A_hardest, hz_ia, hy_ia, d_120, d_120_1, d_120_2, d_120_3]) (fun k hk => (hF67 k (by omega)).trans ((g1_n (by omega)).trans ((hF66 k (by omega)).trans ((hF59 k (by omega)).trans ((g1_n (by omega)).trans ((hF58 k (by omega)).trans ((hF41 k (by omega)).trans ((g1_n (by omega)).trans ((hF40 k (by omega)).trans ((hF3 k (by omega)).trans ((g1_n (by omega)).trans (hF2 k (by omega))))))))))))) ((hF67 _ (by decide)).trans ((g1_n (by decide)).trans ((hF66 _ (by decide)).trans ((hF59 _ (by decide)).trans ((g1_n (by decide)).trans ((hF58 _ (by decide)).trans ((hF41 _ (by decide)).trans ((g1_n (by decide)).trans ((hF40 _ (by decide)).trans ((hF3 _ (by decide)).trans ((g1_n (by decide)).trans (hF2 _ (by decide)))))))))))))) dX12_hardest_124
                                        · skip
                                          refine lv_aload_n hx hb dX12_hardest_90 rfl (lv_at hl 1 rfl) ?_
                                          refine z_get C0 hP (C := RX12) (T := TX12) (N := 21) (ci := 10) (index := 9) (k := 92) (ref := "WetSuitPedalsShoesModel") (zk_lt (rfl : zk 92 = 10) (by decide)) (zd_10 E (rfl : zk 92 = 10) _) rfl (zmi inU_12) 0 (by decide) (zm flRX12_9) rfl (v := .ref (E.1 93)) (rfl) dX12_hardest_91 ?_
                                          refine lv_iload_n hx hb dX12_hardest_94 rfl (lv_at hl 2 rfl) ?_
                                          refine lv_iconst (v := (3 : Int32)) hx hb dX12_hardest_95 (by decide) ?_
                                          refine z_Si C0 hP hD hA hS (As := [.int (nI ia), .int (3 : Int32)]) (rest := [.ref (E.1 93)]) (c_X12_athleteAt l E _ ia 3) (va_cwS 2 hts (zgS zbw mlRX12_70 stX12_athleteAt iniRX12 coX12_athleteAt) rfl rfl rfl (by decide +kernel) ⟨Nat.le_of_ble_eq_true rfl, Nat.le_of_ble_eq_true rfl⟩) rfl hl.1 rfl (Nat.le_of_ble_eq_true rfl) dX12_hardest_96 ⟨Nat.zero_le _, Nat.zero_le _⟩ (fun r68 G68 H locs hw68 hP hS => ?_)
                                          obtain ⟨hr68, rfl⟩ := hw68
                                          subst hr68
                                          refine z_eqi (y := (nI (35 + 4 * ia))) (congrArg nI (by omega)) ?_
                                          refine z_iald C0 hP (k := 93) (i := 35 + 4 * ia) (v := (r (35 + 4 * ia))) (rfl : zk 93 = 11) (Nat.lt_of_lt_of_eq (show 35 + 4 * ia < 102 by omega) (rfl : zl 93 = 102).symm) rfl dX12_hardest_99 (congrFun ((hF67 _ (by decide)).trans ((g1_n (by decide)).trans ((hF66 _ (by decide)).trans ((hF59 _ (by decide)).trans ((g1_n (by decide)).trans ((hF58 _ (by decide)).trans ((hF41 _ (by decide)).trans ((g1_n (by decide)).trans ((hF40 _ (by decide)).trans ((hF3 _ (by decide)).trans ((g1_n (by decide)).trans ((hF2 _ (by decide)).trans (hM))))))))))))) _) ?_
                                          refine lv_goto (tgt := 116) hx hb dX12_hardest_100 (by decide) ?_
                                          refine lv_istore (lv' := [(4, .int (r (35 + 4 * ia))), (3, .int r67), (0, .ref (E.1 92)), (1, .int (nI ia)), (2, .int (0 : Int32))]) hx hb dX12_hardest_116 hl (by decide) rfl (fun ls hl => ?_)
                                          refine lv_iload hx hb dX12_hardest_118 (lv_at hl 0 rfl) ?_
                                          refine lv_if_le (tgt := 125) hx hb dX12_hardest_120 (by decide) (fun c_120_3 => ?_) (fun c_120_3 => ?_)
                                          · skip
                                            have d_120_3 := Int32.not_lt.mpr c_120_3
                                            have e_120_3 := q_hd_0 (r := r) (a := ia) (v := (0 : Int32)) c_87_3
                                            rw [← e_120_3] at d_120_3
                                            refine lv_iinc (v := (-1 : Int32)) (lv' := [(2, .int (-1 : Int32)), (4, .int (r (35 + 4 * ia))), (3, .int r67), (0, .ref (E.1 92)), (1, .int (nI ia))]) hx hb dX12_hardest_125 hl (k := 4) rfl (by decide) (by decide) rfl (fun ls hl => ?_)
                                            refine lv_goto (tgt := 16) hx hb dX12_hardest_128 (by decide) ?_
                                            refine lv_iload_n hx hb dX12_hardest_16 rfl (lv_at hl 0 rfl) ?_
                                            refine lv_if_lt (tgt := 131) hx hb dX12_hardest_17 (by decide) (fun _ => ?_) (fun h_ => absurd (by decide) h_)
                                            refine lv_bipush (v := (-9 : Int32)) hx hb dX12_hardest_131 (by decide) ?_
                                            subst hQ_
                                            exact z_iret C0 hP hS (v := (-9 : Int32)) (by exact zQm_of (k := 0) (by simp [A_hardest, hz_ia, hy_ia, d_120, d_120_1, d_120_2, d_120_3]) (fun k hk => (hF67 k (by omega)).trans ((g1_n (by omega)).trans ((hF66 k (by omega)).trans ((hF59 k (by omega)).trans ((g1_n (by omega)).trans ((hF58 k (by omega)).trans ((hF41 k (by omega)).trans ((g1_n (by omega)).trans ((hF40 k (by omega)).trans ((hF3 k (by omega)).trans ((g1_n (by omega)).trans (hF2 k (by omega))))))))))))) ((hF67 _ (by decide)).trans ((g1_n (by decide)).trans ((hF66 _ (by decide)).trans ((hF59 _ (by decide)).trans ((g1_n (by decide)).trans ((hF58 _ (by decide)).trans ((hF41 _ (by decide)).trans ((g1_n (by decide)).trans ((hF40 _ (by decide)).trans ((hF3 _ (by decide)).trans ((g1_n (by decide)).trans (hF2 _ (by decide)))))))))))))) dX12_hardest_133
                                          · skip
                                            have d_120_3 := Int32.not_le.mp c_120_3
                                            have e_120_3 := q_hd_0 (r := r) (a := ia) (v := (0 : Int32)) c_87_3
                                            rw [← e_120_3] at d_120_3
                                            refine lv_iload_n hx hb dX12_hardest_123 rfl (lv_at hl 4 rfl) ?_
                                            subst hQ_
                                            exact z_iret C0 hP hS (v := (0 : Int32)) (by exact zQm_of (k := 0) (by simp [A_hardest, hz_ia, hy_ia, d_120, d_120_1, d_120_2, d_120_3]) (fun k hk => (hF67 k (by omega)).trans ((g1_n (by omega)).trans ((hF66 k (by omega)).trans ((hF59 k (by omega)).trans ((g1_n (by omega)).trans ((hF58 k (by omega)).trans ((hF41 k (by omega)).trans ((g1_n (by omega)).trans ((hF40 k (by omega)).trans ((hF3 k (by omega)).trans ((g1_n (by omega)).trans (hF2 k (by omega))))))))))))) ((hF67 _ (by decide)).trans ((g1_n (by decide)).trans ((hF66 _ (by decide)).trans ((hF59 _ (by decide)).trans ((g1_n (by decide)).trans ((hF58 _ (by decide)).trans ((hF41 _ (by decide)).trans ((g1_n (by decide)).trans ((hF40 _ (by decide)).trans ((hF3 _ (by decide)).trans ((g1_n (by decide)).trans (hF2 _ (by decide)))))))))))))) dX12_hardest_124
                                      · skip
                                        refine lv_aload_n hx hb dX12_hardest_43 rfl (lv_at hl 0 rfl) ?_
                                        refine z_get C0 hP (C := RX12) (T := TX12) (N := 21) (ci := 10) (index := 9) (k := 92) (ref := "WetSuitPedalsShoesModel") (zk_lt (rfl : zk 92 = 10) (by decide)) (zd_10 E (rfl : zk 92 = 10) _) rfl (zmi inU_12) 0 (by decide) (zm flRX12_9) rfl (v := .ref (E.1 93)) (rfl) dX12_hardest_44 ?_
                                        refine lv_iload_n hx hb dX12_hardest_47 rfl (lv_at hl 3 rfl) ?_
                                        refine z_Si C0 hP hD hA hS (As := [.ref (E.1 93), .int (nI i)]) (rest := []) (c_X12_isRide l E _ 93 i z_lit_Arr102_93 (by omega)) (va_cwS 2 hts (zgS zbw mlRX12_73 stX12_isRide iniRX12 coX12_isRide) rfl rfl rfl (by decide +kernel) ⟨Nat.le_of_ble_eq_true rfl, Nat.le_of_ble_eq_true rfl⟩) rfl hl.1 rfl (Nat.le_of_ble_eq_true rfl) dX12_hardest_48 ⟨Nat.zero_le _, Nat.zero_le _⟩ (fun r69 G69 H locs hw69 hP hS => ?_)
                                        obtain ⟨hr69, rfl⟩ := hw69
                                        have hr69 : s_isRide (r (2 + 3 * i)) = _ := (congrArg (fun z_ : Nat → Int32 => s_isRide (z_ (2 + 3 * i))) (show (g1 G66 94 f) 93 = r from (g1_n (by decide)).trans ((hF66 _ (by decide)).trans ((hF59 _ (by decide)).trans ((g1_n (by decide)).trans ((hF58 _ (by decide)).trans ((hF41 _ (by decide)).trans ((g1_n (by decide)).trans ((hF40 _ (by decide)).trans ((hF3 _ (by decide)).trans ((g1_n (by decide)).trans ((hF2 _ (by decide)).trans (hM))))))))))))).symm.trans hr69
                                        subst hr69
                                        refine lv_if_eq (tgt := 65) hx hb dX12_hardest_51 (by decide) (fun c_51 => ?_) (fun c_51 => ?_)
                                        · skip
                                          refine lv_iinc (v := (nI (i + 1))) (lv' := [(3, .int (nI (i + 1))), (0, .ref (E.1 92)), (1, .int (nI ia)), (2, .int (0 : Int32))]) hx hb dX12_hardest_65 hl (k := 3) rfl (z_inc (by decide)) (by decide) rfl (fun ls hl => ?_)
                                          refine lv_goto (tgt := 33) hx hb dX12_hardest_68 (by decide) ?_
                                          exact ih_33 (i + 1) f _ _ _ (by first | assumption | omega) (by intro j hj; rw [s_rd_n (fun q => by rw [c_51] at q; exact absurd q (by decide))]; exact hf j hj) hP hS (lv_sub hl [1, 2, 3, 0] rfl) (by omega)
                                        · skip
                                          refine lv_aload_n hx hb dX12_hardest_54 rfl (lv_at hl 0 rfl) ?_
                                          refine z_get C0 hP (C := RX12) (T := TX12) (N := 21) (ci := 10) (index := 13) (k := 92) (ref := "WetSuitPedalsShoesModel") (zk_lt (rfl : zk 92 = 10) (by decide)) (zd_10 E (rfl : zk 92 = 10) _) rfl (zmi inU_12) 1 (by decide) (zm flRX12_13) rfl (v := .ref (E.1 94)) (rfl) dX12_hardest_55 ?_
                                          refine lv_iload_n hx hb dX12_hardest_58 rfl (lv_at hl 1 rfl) ?_
                                          refine lv_iload_n hx hb dX12_hardest_59 rfl (lv_at hl 3 rfl) ?_
                                          refine z_Si C0 hP hD hA hS (As := [.int (nI ia), .int (nI i)]) (rest := [.ref (E.1 94)]) (c_X12_tried l E _ ia i) (va_cwS 2 hts (zgS zbw mlRX12_91 stX12_tried iniRX12 coX12_tried) rfl rfl rfl (by decide +kernel) ⟨Nat.le_of_ble_eq_true rfl, Nat.le_of_ble_eq_true rfl⟩) rfl hl.1 rfl (Nat.le_of_ble_eq_true rfl) dX12_hardest_60 ⟨Nat.zero_le _, Nat.zero_le _⟩ (fun r70 G70 H locs hw70 hP hS => ?_)
                                          obtain ⟨hr70, rfl⟩ := hw70
                                          subst hr70
                                          refine z_eqi (y := (nI (52 + 10 * ia + i))) (congrArg nI (by omega)) ?_
                                          refine lv_iload_n hx hb dX12_hardest_63 rfl (lv_at hl 2 rfl) ?_
                                          refine z_iast C0 hP hD hS (k := 94) (i := 52 + 10 * ia + i) (v := (0 : Int32)) (F := f) (g1_s _ _ _) (rfl : zk 94 = 11) (Nat.lt_of_lt_of_eq (show 52 + 10 * ia + i < 102 by omega) (rfl : zl 94 = 102).symm) rfl dX12_hardest_64 (fun H locs hP hS => ?_)
                                          have hP := zP_eq (g1_t _ _ _ _ : _ = (g1 G66 94 (upd f (52 + 10 * ia + i) (0 : Int32)))) hP
                                          refine lv_iinc (v := (nI (i + 1))) (lv' := [(3, .int (nI (i + 1))), (0, .ref (E.1 92)), (1, .int (nI ia)), (2, .int (0 : Int32))]) hx hb dX12_hardest_65 hl (k := 3) rfl (z_inc (by decide)) (by decide) rfl (fun ls hl => ?_)
                                          refine lv_goto (tgt := 33) hx hb dX12_hardest_68 (by decide) ?_
                                          exact ih_33 (i + 1) (upd f (52 + 10 * ia + i) (0 : Int32)) _ _ _ (by first | assumption | omega) (by intro j hj; rw [s_rd_y (s_ride_ne c_51)]; exact upd_c hf j hj) hP hS (lv_sub hl [1, 2, 3, 0] rfl) (by omega)
                                  exact cut_33 (_ + 1) 0 (G66 94) _ _ _ (by first | assumption | omega) (by exact (fun j hj => (hcp66 j hj).trans (congrFun ((hF59 _ (by decide)).trans ((g1_n (by decide)).trans ((hF58 _ (by decide)).trans ((hF41 _ (by decide)).trans ((g1_n (by decide)).trans ((hF40 _ (by decide)).trans ((hF3 _ (by decide)).trans ((g1_n (by decide)).trans ((hF2 _ (by decide)).trans (hM)))))))))) j))) (zP_eq ((g1_e G66 94).symm) hP) hS (lv_sub hl [3, 4, 1, 0] rfl) (Nat.lt_succ_self _)
                                · skip
                                  have d_120_2 := Int32.not_le.mp c_120_2
                                  have e_120_2 := q_hd_0 (r := r) (a := ia) (v := (1 : Int32)) c_87_2
                                  rw [← e_120_2] at d_120_2
                                  refine lv_iload_n hx hb dX12_hardest_123 rfl (lv_at hl 4 rfl) ?_
                                  subst hQ_
                                  exact z_iret C0 hP hS (v := (1 : Int32)) (by exact zQm_of (k := 0) (by simp [A_hardest, hz_ia, hy_ia, d_120, d_120_1, d_120_2]) (fun k hk => (hF59 k (by omega)).trans ((g1_n (by omega)).trans ((hF58 k (by omega)).trans ((hF41 k (by omega)).trans ((g1_n (by omega)).trans ((hF40 k (by omega)).trans ((hF3 k (by omega)).trans ((g1_n (by omega)).trans (hF2 k (by omega)))))))))) ((hF59 _ (by decide)).trans ((g1_n (by decide)).trans ((hF58 _ (by decide)).trans ((hF41 _ (by decide)).trans ((g1_n (by decide)).trans ((hF40 _ (by decide)).trans ((hF3 _ (by decide)).trans ((g1_n (by decide)).trans (hF2 _ (by decide))))))))))) dX12_hardest_124
                            · skip
                              refine lv_aload_n hx hb dX12_hardest_43 rfl (lv_at hl 0 rfl) ?_
                              refine z_get C0 hP (C := RX12) (T := TX12) (N := 21) (ci := 10) (index := 9) (k := 92) (ref := "WetSuitPedalsShoesModel") (zk_lt (rfl : zk 92 = 10) (by decide)) (zd_10 E (rfl : zk 92 = 10) _) rfl (zmi inU_12) 0 (by decide) (zm flRX12_9) rfl (v := .ref (E.1 93)) (rfl) dX12_hardest_44 ?_
                              refine lv_iload_n hx hb dX12_hardest_47 rfl (lv_at hl 3 rfl) ?_
                              refine z_Si C0 hP hD hA hS (As := [.ref (E.1 93), .int (nI i)]) (rest := []) (c_X12_isRide l E _ 93 i z_lit_Arr102_93 (by omega)) (va_cwS 2 hts (zgS zbw mlRX12_73 stX12_isRide iniRX12 coX12_isRide) rfl rfl rfl (by decide +kernel) ⟨Nat.le_of_ble_eq_true rfl, Nat.le_of_ble_eq_true rfl⟩) rfl hl.1 rfl (Nat.le_of_ble_eq_true rfl) dX12_hardest_48 ⟨Nat.zero_le _, Nat.zero_le _⟩ (fun r71 G71 H locs hw71 hP hS => ?_)
                              obtain ⟨hr71, rfl⟩ := hw71
                              have hr71 : s_isRide (r (2 + 3 * i)) = _ := (congrArg (fun z_ : Nat → Int32 => s_isRide (z_ (2 + 3 * i))) (show (g1 G58 94 f) 93 = r from (g1_n (by decide)).trans ((hF58 _ (by decide)).trans ((hF41 _ (by decide)).trans ((g1_n (by decide)).trans ((hF40 _ (by decide)).trans ((hF3 _ (by decide)).trans ((g1_n (by decide)).trans ((hF2 _ (by decide)).trans (hM)))))))))).symm.trans hr71
                              subst hr71
                              refine lv_if_eq (tgt := 65) hx hb dX12_hardest_51 (by decide) (fun c_51 => ?_) (fun c_51 => ?_)
                              · skip
                                refine lv_iinc (v := (nI (i + 1))) (lv' := [(3, .int (nI (i + 1))), (0, .ref (E.1 92)), (1, .int (nI ia)), (2, .int (1 : Int32))]) hx hb dX12_hardest_65 hl (k := 3) rfl (z_inc (by decide)) (by decide) rfl (fun ls hl => ?_)
                                refine lv_goto (tgt := 33) hx hb dX12_hardest_68 (by decide) ?_
                                exact ih_33 (i + 1) f _ _ _ (by first | assumption | omega) (by intro j hj; rw [s_rd_n (fun q => by rw [c_51] at q; exact absurd q (by decide))]; exact hf j hj) hP hS (lv_sub hl [1, 2, 3, 0] rfl) (by omega)
                              · skip
                                refine lv_aload_n hx hb dX12_hardest_54 rfl (lv_at hl 0 rfl) ?_
                                refine z_get C0 hP (C := RX12) (T := TX12) (N := 21) (ci := 10) (index := 13) (k := 92) (ref := "WetSuitPedalsShoesModel") (zk_lt (rfl : zk 92 = 10) (by decide)) (zd_10 E (rfl : zk 92 = 10) _) rfl (zmi inU_12) 1 (by decide) (zm flRX12_13) rfl (v := .ref (E.1 94)) (rfl) dX12_hardest_55 ?_
                                refine lv_iload_n hx hb dX12_hardest_58 rfl (lv_at hl 1 rfl) ?_
                                refine lv_iload_n hx hb dX12_hardest_59 rfl (lv_at hl 3 rfl) ?_
                                refine z_Si C0 hP hD hA hS (As := [.int (nI ia), .int (nI i)]) (rest := [.ref (E.1 94)]) (c_X12_tried l E _ ia i) (va_cwS 2 hts (zgS zbw mlRX12_91 stX12_tried iniRX12 coX12_tried) rfl rfl rfl (by decide +kernel) ⟨Nat.le_of_ble_eq_true rfl, Nat.le_of_ble_eq_true rfl⟩) rfl hl.1 rfl (Nat.le_of_ble_eq_true rfl) dX12_hardest_60 ⟨Nat.zero_le _, Nat.zero_le _⟩ (fun r72 G72 H locs hw72 hP hS => ?_)
                                obtain ⟨hr72, rfl⟩ := hw72
                                subst hr72
                                refine z_eqi (y := (nI (52 + 10 * ia + i))) (congrArg nI (by omega)) ?_
                                refine lv_iload_n hx hb dX12_hardest_63 rfl (lv_at hl 2 rfl) ?_
                                refine z_iast C0 hP hD hS (k := 94) (i := 52 + 10 * ia + i) (v := (1 : Int32)) (F := f) (g1_s _ _ _) (rfl : zk 94 = 11) (Nat.lt_of_lt_of_eq (show 52 + 10 * ia + i < 102 by omega) (rfl : zl 94 = 102).symm) rfl dX12_hardest_64 (fun H locs hP hS => ?_)
                                have hP := zP_eq (g1_t _ _ _ _ : _ = (g1 G58 94 (upd f (52 + 10 * ia + i) (1 : Int32)))) hP
                                refine lv_iinc (v := (nI (i + 1))) (lv' := [(3, .int (nI (i + 1))), (0, .ref (E.1 92)), (1, .int (nI ia)), (2, .int (1 : Int32))]) hx hb dX12_hardest_65 hl (k := 3) rfl (z_inc (by decide)) (by decide) rfl (fun ls hl => ?_)
                                refine lv_goto (tgt := 33) hx hb dX12_hardest_68 (by decide) ?_
                                exact ih_33 (i + 1) (upd f (52 + 10 * ia + i) (1 : Int32)) _ _ _ (by first | assumption | omega) (by intro j hj; rw [s_rd_y (s_ride_ne c_51)]; exact upd_c hf j hj) hP hS (lv_sub hl [1, 2, 3, 0] rfl) (by omega)
                        exact cut_33 (_ + 1) 0 (G58 94) _ _ _ (by first | assumption | omega) (by exact (fun j hj => (hcp58 j hj).trans (congrFun ((hF41 _ (by decide)).trans ((g1_n (by decide)).trans ((hF40 _ (by decide)).trans ((hF3 _ (by decide)).trans ((g1_n (by decide)).trans ((hF2 _ (by decide)).trans (hM))))))) j))) (zP_eq ((g1_e G58 94).symm) hP) hS (lv_sub hl [3, 4, 1, 0] rfl) (Nat.lt_succ_self _)
                      · skip
                        have d_120_1 := Int32.not_le.mp c_120_1
                        have e_120_1 := q_hd_0 (r := r) (a := ia) (v := (2 : Int32)) c_87_1
                        rw [← e_120_1] at d_120_1
                        refine lv_iload_n hx hb dX12_hardest_123 rfl (lv_at hl 4 rfl) ?_
                        subst hQ_
                        exact z_iret C0 hP hS (v := (2 : Int32)) (by exact zQm_of (k := 0) (by simp [A_hardest, hz_ia, hy_ia, d_120, d_120_1]) (fun k hk => (hF41 k (by omega)).trans ((g1_n (by omega)).trans ((hF40 k (by omega)).trans ((hF3 k (by omega)).trans ((g1_n (by omega)).trans (hF2 k (by omega))))))) ((hF41 _ (by decide)).trans ((g1_n (by decide)).trans ((hF40 _ (by decide)).trans ((hF3 _ (by decide)).trans ((g1_n (by decide)).trans (hF2 _ (by decide)))))))) dX12_hardest_124
                  · skip
                    refine lv_aload_n hx hb dX12_hardest_43 rfl (lv_at hl 0 rfl) ?_
                    refine z_get C0 hP (C := RX12) (T := TX12) (N := 21) (ci := 10) (index := 9) (k := 92) (ref := "WetSuitPedalsShoesModel") (zk_lt (rfl : zk 92 = 10) (by decide)) (zd_10 E (rfl : zk 92 = 10) _) rfl (zmi inU_12) 0 (by decide) (zm flRX12_9) rfl (v := .ref (E.1 93)) (rfl) dX12_hardest_44 ?_
                    refine lv_iload_n hx hb dX12_hardest_47 rfl (lv_at hl 3 rfl) ?_
                    refine z_Si C0 hP hD hA hS (As := [.ref (E.1 93), .int (nI i)]) (rest := []) (c_X12_isRide l E _ 93 i z_lit_Arr102_93 (by omega)) (va_cwS 2 hts (zgS zbw mlRX12_73 stX12_isRide iniRX12 coX12_isRide) rfl rfl rfl (by decide +kernel) ⟨Nat.le_of_ble_eq_true rfl, Nat.le_of_ble_eq_true rfl⟩) rfl hl.1 rfl (Nat.le_of_ble_eq_true rfl) dX12_hardest_48 ⟨Nat.zero_le _, Nat.zero_le _⟩ (fun r73 G73 H locs hw73 hP hS => ?_)
                    obtain ⟨hr73, rfl⟩ := hw73
                    have hr73 : s_isRide (r (2 + 3 * i)) = _ := (congrArg (fun z_ : Nat → Int32 => s_isRide (z_ (2 + 3 * i))) (show (g1 G40 94 f) 93 = r from (g1_n (by decide)).trans ((hF40 _ (by decide)).trans ((hF3 _ (by decide)).trans ((g1_n (by decide)).trans ((hF2 _ (by decide)).trans (hM))))))).symm.trans hr73
                    subst hr73
                    refine lv_if_eq (tgt := 65) hx hb dX12_hardest_51 (by decide) (fun c_51 => ?_) (fun c_51 => ?_)
                    · skip
                      refine lv_iinc (v := (nI (i + 1))) (lv' := [(3, .int (nI (i + 1))), (0, .ref (E.1 92)), (1, .int (nI ia)), (2, .int (2 : Int32))]) hx hb dX12_hardest_65 hl (k := 3) rfl (z_inc (by decide)) (by decide) rfl (fun ls hl => ?_)
                      refine lv_goto (tgt := 33) hx hb dX12_hardest_68 (by decide) ?_
                      exact ih_33 (i + 1) f _ _ _ (by first | assumption | omega) (by intro j hj; rw [s_rd_n (fun q => by rw [c_51] at q; exact absurd q (by decide))]; exact hf j hj) hP hS (lv_sub hl [1, 2, 3, 0] rfl) (by omega)
                    · skip
                      refine lv_aload_n hx hb dX12_hardest_54 rfl (lv_at hl 0 rfl) ?_
                      refine z_get C0 hP (C := RX12) (T := TX12) (N := 21) (ci := 10) (index := 13) (k := 92) (ref := "WetSuitPedalsShoesModel") (zk_lt (rfl : zk 92 = 10) (by decide)) (zd_10 E (rfl : zk 92 = 10) _) rfl (zmi inU_12) 1 (by decide) (zm flRX12_13) rfl (v := .ref (E.1 94)) (rfl) dX12_hardest_55 ?_
                      refine lv_iload_n hx hb dX12_hardest_58 rfl (lv_at hl 1 rfl) ?_
                      refine lv_iload_n hx hb dX12_hardest_59 rfl (lv_at hl 3 rfl) ?_
                      refine z_Si C0 hP hD hA hS (As := [.int (nI ia), .int (nI i)]) (rest := [.ref (E.1 94)]) (c_X12_tried l E _ ia i) (va_cwS 2 hts (zgS zbw mlRX12_91 stX12_tried iniRX12 coX12_tried) rfl rfl rfl (by decide +kernel) ⟨Nat.le_of_ble_eq_true rfl, Nat.le_of_ble_eq_true rfl⟩) rfl hl.1 rfl (Nat.le_of_ble_eq_true rfl) dX12_hardest_60 ⟨Nat.zero_le _, Nat.zero_le _⟩ (fun r74 G74 H locs hw74 hP hS => ?_)
                      obtain ⟨hr74, rfl⟩ := hw74
                      subst hr74
                      refine z_eqi (y := (nI (52 + 10 * ia + i))) (congrArg nI (by omega)) ?_
                      refine lv_iload_n hx hb dX12_hardest_63 rfl (lv_at hl 2 rfl) ?_
                      refine z_iast C0 hP hD hS (k := 94) (i := 52 + 10 * ia + i) (v := (2 : Int32)) (F := f) (g1_s _ _ _) (rfl : zk 94 = 11) (Nat.lt_of_lt_of_eq (show 52 + 10 * ia + i < 102 by omega) (rfl : zl 94 = 102).symm) rfl dX12_hardest_64 (fun H locs hP hS => ?_)
                      have hP := zP_eq (g1_t _ _ _ _ : _ = (g1 G40 94 (upd f (52 + 10 * ia + i) (2 : Int32)))) hP
                      refine lv_iinc (v := (nI (i + 1))) (lv' := [(3, .int (nI (i + 1))), (0, .ref (E.1 92)), (1, .int (nI ia)), (2, .int (2 : Int32))]) hx hb dX12_hardest_65 hl (k := 3) rfl (z_inc (by decide)) (by decide) rfl (fun ls hl => ?_)
                      refine lv_goto (tgt := 33) hx hb dX12_hardest_68 (by decide) ?_
                      exact ih_33 (i + 1) (upd f (52 + 10 * ia + i) (2 : Int32)) _ _ _ (by first | assumption | omega) (by intro j hj; rw [s_rd_y (s_ride_ne c_51)]; exact upd_c hf j hj) hP hS (lv_sub hl [1, 2, 3, 0] rfl) (by omega)
              exact cut_33 (_ + 1) 0 (G40 94) _ _ _ (by first | assumption | omega) (by exact (fun j hj => (hcp40 j hj).trans (congrFun ((hF3 _ (by decide)).trans ((g1_n (by decide)).trans ((hF2 _ (by decide)).trans (hM)))) j))) (zP_eq ((g1_e G40 94).symm) hP) hS (lv_sub hl [3, 4, 1, 0] rfl) (Nat.lt_succ_self _)
            · skip
              have d_120 := Int32.not_le.mp c_120
              have e_120 := q_hd_0 (r := r) (a := ia) (v := (3 : Int32)) c_87
              rw [← e_120] at d_120
              refine lv_iload_n hx hb dX12_hardest_123 rfl (lv_at hl 4 rfl) ?_
              subst hQ_
              exact z_iret C0 hP hS (v := (3 : Int32)) (by exact zQm_of (k := 0) (by simp [A_hardest, hz_ia, hy_ia, d_120]) (fun k hk => (hF3 k (by omega)).trans ((g1_n (by omega)).trans (hF2 k (by omega)))) ((hF3 _ (by decide)).trans ((g1_n (by decide)).trans (hF2 _ (by decide))))) dX12_hardest_124
        · skip
          refine lv_aload_n hx hb dX12_hardest_43 rfl (lv_at hl 0 rfl) ?_
          refine z_get C0 hP (C := RX12) (T := TX12) (N := 21) (ci := 10) (index := 9) (k := 92) (ref := "WetSuitPedalsShoesModel") (zk_lt (rfl : zk 92 = 10) (by decide)) (zd_10 E (rfl : zk 92 = 10) _) rfl (zmi inU_12) 0 (by decide) (zm flRX12_9) rfl (v := .ref (E.1 93)) (rfl) dX12_hardest_44 ?_
          refine lv_iload_n hx hb dX12_hardest_47 rfl (lv_at hl 3 rfl) ?_
          refine z_Si C0 hP hD hA hS (As := [.ref (E.1 93), .int (nI i)]) (rest := []) (c_X12_isRide l E _ 93 i z_lit_Arr102_93 (by omega)) (va_cwS 2 hts (zgS zbw mlRX12_73 stX12_isRide iniRX12 coX12_isRide) rfl rfl rfl (by decide +kernel) ⟨Nat.le_of_ble_eq_true rfl, Nat.le_of_ble_eq_true rfl⟩) rfl hl.1 rfl (Nat.le_of_ble_eq_true rfl) dX12_hardest_48 ⟨Nat.zero_le _, Nat.zero_le _⟩ (fun r75 G75 H locs hw75 hP hS => ?_)
          obtain ⟨hr75, rfl⟩ := hw75
          have hr75 : s_isRide (r (2 + 3 * i)) = _ := (congrArg (fun z_ : Nat → Int32 => s_isRide (z_ (2 + 3 * i))) (show (g1 G2 94 f) 93 = r from (g1_n (by decide)).trans ((hF2 _ (by decide)).trans (hM)))).symm.trans hr75
          subst hr75
          refine lv_if_eq (tgt := 65) hx hb dX12_hardest_51 (by decide) (fun c_51 => ?_) (fun c_51 => ?_)
          · skip
            refine lv_iinc (v := (nI (i + 1))) (lv' := [(3, .int (nI (i + 1))), (0, .ref (E.1 92)), (1, .int (nI ia)), (2, .int (3 : Int32))]) hx hb dX12_hardest_65 hl (k := 3) rfl (z_inc (by decide)) (by decide) rfl (fun ls hl => ?_)
            refine lv_goto (tgt := 33) hx hb dX12_hardest_68 (by decide) ?_
            exact ih_33 (i + 1) f _ _ _ (by first | assumption | omega) (by intro j hj; rw [s_rd_n (fun q => by rw [c_51] at q; exact absurd q (by decide))]; exact hf j hj) hP hS (lv_sub hl [1, 2, 3, 0] rfl) (by omega)
          · skip
            refine lv_aload_n hx hb dX12_hardest_54 rfl (lv_at hl 0 rfl) ?_
            refine z_get C0 hP (C := RX12) (T := TX12) (N := 21) (ci := 10) (index := 13) (k := 92) (ref := "WetSuitPedalsShoesModel") (zk_lt (rfl : zk 92 = 10) (by decide)) (zd_10 E (rfl : zk 92 = 10) _) rfl (zmi inU_12) 1 (by decide) (zm flRX12_13) rfl (v := .ref (E.1 94)) (rfl) dX12_hardest_55 ?_
            refine lv_iload_n hx hb dX12_hardest_58 rfl (lv_at hl 1 rfl) ?_
            refine lv_iload_n hx hb dX12_hardest_59 rfl (lv_at hl 3 rfl) ?_
            refine z_Si C0 hP hD hA hS (As := [.int (nI ia), .int (nI i)]) (rest := [.ref (E.1 94)]) (c_X12_tried l E _ ia i) (va_cwS 2 hts (zgS zbw mlRX12_91 stX12_tried iniRX12 coX12_tried) rfl rfl rfl (by decide +kernel) ⟨Nat.le_of_ble_eq_true rfl, Nat.le_of_ble_eq_true rfl⟩) rfl hl.1 rfl (Nat.le_of_ble_eq_true rfl) dX12_hardest_60 ⟨Nat.zero_le _, Nat.zero_le _⟩ (fun r76 G76 H locs hw76 hP hS => ?_)
            obtain ⟨hr76, rfl⟩ := hw76
            subst hr76
            refine z_eqi (y := (nI (52 + 10 * ia + i))) (congrArg nI (by omega)) ?_
            refine lv_iload_n hx hb dX12_hardest_63 rfl (lv_at hl 2 rfl) ?_
            refine z_iast C0 hP hD hS (k := 94) (i := 52 + 10 * ia + i) (v := (3 : Int32)) (F := f) (g1_s _ _ _) (rfl : zk 94 = 11) (Nat.lt_of_lt_of_eq (show 52 + 10 * ia + i < 102 by omega) (rfl : zl 94 = 102).symm) rfl dX12_hardest_64 (fun H locs hP hS => ?_)
            have hP := zP_eq (g1_t _ _ _ _ : _ = (g1 G2 94 (upd f (52 + 10 * ia + i) (3 : Int32)))) hP
            refine lv_iinc (v := (nI (i + 1))) (lv' := [(3, .int (nI (i + 1))), (0, .ref (E.1 92)), (1, .int (nI ia)), (2, .int (3 : Int32))]) hx hb dX12_hardest_65 hl (k := 3) rfl (z_inc (by decide)) (by decide) rfl (fun ls hl => ?_)
            refine lv_goto (tgt := 33) hx hb dX12_hardest_68 (by decide) ?_
            exact ih_33 (i + 1) (upd f (52 + 10 * ia + i) (3 : Int32)) _ _ _ (by first | assumption | omega) (by intro j hj; rw [s_rd_y (s_ride_ne c_51)]; exact upd_c hf j hj) hP hS (lv_sub hl [1, 2, 3, 0] rfl) (by omega)
    exact cut_33 (_ + 1) 0 (G2 94) _ _ _ (by first | assumption | omega) (by exact (fun j hj => (hcp2 j hj).trans (congrFun (hM) j))) (zP_eq ((g1_e G2 94).symm) hP) hS (lv_sub hl [2, 3, 1, 0] rfl) (Nat.lt_succ_self _)
  · skip
    have hz_ia := zin_f (by omega) hno1
    refine lv_if_ne (tgt := 14) hx hb dX12_hardest_5 (by decide) (fun h_ => absurd (by decide) h_) (fun _ => ?_)
    refine lv_aload_n hx hb dX12_hardest_8 rfl (lv_at hl 0 rfl) ?_
    refine lv_iconst (v := (-1 : Int32)) hx hb dX12_hardest_9 (by decide) ?_
    refine z_Vi C0 hP hD hA hS (As := [.int (-1 : Int32)]) (rest := []) (k := 92) (c_X12_no l E _ (-1 : Int32) 1 (by decide) (by decide)) (cwV 1 hts (zgV zbw mlRX12_56 imX12_no seX12_no iniRX12 coX12_no) rfl rfl rfl (by decide +kernel) ⟨Nat.le_of_ble_eq_true rfl, Nat.le_of_ble_eq_true rfl⟩) (zk_lt (rfl : zk 92 = 10) (by decide)) (zd_10 E (rfl : zk 92 = 10) _) rfl rfl rfl hl.1 rfl (Nat.le_of_ble_eq_true rfl) dX12_hardest_10 ⟨Nat.zero_le _, Nat.zero_le _⟩ (fun r77 G77 H locs hw77 hP hS => ?_)
    obtain ⟨rfl, rfl⟩ := hw77
    subst hQ_
    exact z_iret C0 hP hS (v := (-1 : Int32)) (by exact zQm_of (k := 1) (by simp [A_hardest, hz_ia]) (fun k hk => g1_n (by omega)) (g1_s _ _ _)) dX12_hardest_13
