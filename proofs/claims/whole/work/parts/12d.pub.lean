/-! laid by wip/whole/vcg.py -/
theorem mlRX11_187 : Cond.methodLink RX11 187 yX10_rideAt ∈ zU := zU_m 572 (by decide +kernel) rfl
theorem coX10_rideAt : Cond.code yX10_rideAt cX10_rideAt 3 none ∈ zU := zU_m 575 (by decide +kernel) rfl
theorem imX10_rideAt : Cond.instanceMethod yX10_rideAt ∈ zU := zU_m 573 (by decide +kernel) rfl
theorem seX10_rideAt : Cond.selects RX10 yX10_rideAt yX10_rideAt ∈ zU := zU_m 574 (by decide +kernel) rfl
theorem mlRX11_191 : Cond.methodLink RX11 191 yX10_legsAtFinish ∈ zU := zU_m 577 (by decide +kernel) rfl
theorem coX10_legsAtFinish : Cond.code yX10_legsAtFinish cX10_legsAtFinish 1 (some .int) ∈ zU := zU_m 580 (by decide +kernel) rfl
theorem imX10_legsAtFinish : Cond.instanceMethod yX10_legsAtFinish ∈ zU := zU_m 578 (by decide +kernel) rfl
theorem seX10_legsAtFinish : Cond.selects RX10 yX10_legsAtFinish yX10_legsAtFinish ∈ zU := zU_m 579 (by decide +kernel) rfl
set_option maxHeartbeats 4000000 in
set_option maxRecDepth 100000 in
theorem c_X11_hardest (l : Launch) (E : zE) (G : zG) (r : Nat → Int32) (n na : Nat) (athlete : Int32) (hR : zFA G 1 r n na) (hn10 : n ≤ 10) (hna : na ≤ 5) (hp : zPl G) (hkd : zKd r n) : zMi l yX11_hardest wsX11_hardest ({ frames := 4, cells := 0, slots := 0, locals := 90 } : Room) E G [.ref (E.1 0), .int athlete] (fun r1 G1 => zQc (A_hardest r n na athlete) G r1 G1) := by
  refine zOf (cc := cX11_hardest) (nL := 3) (ret := (some .int)) RX11 (by decide) rfl rfl (Nat.le_of_ble_eq_true rfl) ?_
  intro p_ e_ s_ m_ a_ b_ me_ c_ ls C0 hP hS hl
  have hx := C0.1
  have hb := C0.2.1
  have hts := C0.2.2.2.2.1
  have hD : zD E (zA E s_.heap.size) := C0.2.2.2.2.2.2.2.2
  have hA : ∀ q : Nat, s_.heap.size ≤ q → zA E s_.heap.size q := fun q h => Or.inr h
  refine z_gen (fun Q_ hQ_ => ?_)
  have hl : lv_has ls 3 [(0, .ref (E.1 0)), (1, .int athlete)] := hl
  refine lv_aload_n hx hb dX11_hardest_0 rfl (lv_at hl 0 rfl) ?_
  refine z_get C0 hP (C := RX11) (T := TX11) (N := 11) (ci := 9) (index := 10) (k := 0) (ref := "WetSuitPedalsShoes") (zk_lt (rfl : zk 0 = 9) (by decide)) (zd_9 E (rfl : zk 0 = 9) _) rfl (zmi inU_11) 0 (by decide) (zm flRX11_10) rfl (v := .ref (E.1 1)) (rfl) dX11_hardest_1 ?_
  refine lv_iload_n hx hb dX11_hardest_4 rfl (lv_at hl 1 rfl) ?_
  refine z_Vi C0 hP hD hA hS (As := [.int athlete]) (rest := []) (k := 1) (c_X3_has l E _ 1 na athlete z_lit_Fie_1 (hR.2.1) (by omega)) (cwV 1 hts (zgV zbw mlRX11_117 imX3_has seX3_has iniRX3 coX3_has) rfl rfl rfl (by decide +kernel) ⟨Nat.le_of_ble_eq_true rfl, Nat.le_of_ble_eq_true rfl⟩) (zk_lt (rfl : zk 1 = 3) (by decide)) (zd_3 E (rfl : zk 1 = 3) _) rfl rfl rfl hl.1 rfl (Nat.le_of_ble_eq_true rfl) dX11_hardest_5 ⟨Nat.zero_le _, Nat.zero_le _⟩ (fun r1 G1 H locs hw1 hP hS => ?_)
  rcases hw1 with ⟨rfl, rfl, ia, hia, rfl⟩ | ⟨rfl, rfl, hno1⟩
  · skip
    have hz_ia := zin_t hia (by omega)
    have hy_ia : zix (nI ia) = ia := zix_n (by omega)
    refine lv_if_ne (tgt := 17) hx hb dX11_hardest_8 (by decide) (fun _ => ?_) (fun h_ => absurd h_ (by decide))
    refine lv_aload_n hx hb dX11_hardest_17 rfl (lv_at hl 0 rfl) ?_
    refine z_get C0 hP (C := RX11) (T := TX11) (N := 11) (ci := 9) (index := 44) (k := 0) (ref := "WetSuitPedalsShoes") (zk_lt (rfl : zk 0 = 9) (by decide)) (zd_9 E (rfl : zk 0 = 9) _) rfl (zmi inU_11) 6 (by decide) (zm flRX11_44) rfl (v := .ref (E.1 48)) (rfl) dX11_hardest_18 ?_
    refine lv_aload_n hx hb dX11_hardest_21 rfl (lv_at hl 0 rfl) ?_
    refine z_get C0 hP (C := RX11) (T := TX11) (N := 11) (ci := 9) (index := 10) (k := 0) (ref := "WetSuitPedalsShoes") (zk_lt (rfl : zk 0 = 9) (by decide)) (zd_9 E (rfl : zk 0 = 9) _) rfl (zmi inU_11) 0 (by decide) (zm flRX11_10) rfl (v := .ref (E.1 1)) (rfl) dX11_hardest_22 ?_
    refine z_get C0 hP (C := RX3) (T := TX3) (N := 3) (ci := 3) (index := 93) (k := 1) (ref := "WetSuitPedalsShoes$Field") (zk_lt (rfl : zk 1 = 3) (by decide)) (zd_3 E (rfl : zk 1 = 3) _) rfl (zmi inU_3) 0 (by decide) (zm flRX11_93) rfl (v := .ref (E.1 2)) (rfl) dX11_hardest_25 ?_
    refine lv_aload_n hx hb dX11_hardest_28 rfl (lv_at hl 0 rfl) ?_
    refine z_get C0 hP (C := RX11) (T := TX11) (N := 11) (ci := 9) (index := 10) (k := 0) (ref := "WetSuitPedalsShoes") (zk_lt (rfl : zk 0 = 9) (by decide)) (zd_9 E (rfl : zk 0 = 9) _) rfl (zmi inU_11) 0 (by decide) (zm flRX11_10) rfl (v := .ref (E.1 1)) (rfl) dX11_hardest_29 ?_
    refine z_get C0 hP (C := RX3) (T := TX3) (N := 3) (ci := 3) (index := 118) (k := 1) (ref := "WetSuitPedalsShoes$Field") (zk_lt (rfl : zk 1 = 3) (by decide)) (zd_3 E (rfl : zk 1 = 3) _) rfl (zmi inU_3) 1 (by decide) (zm flRX11_118) rfl (v := .ref (E.1 6)) (rfl) dX11_hardest_32 ?_
    refine lv_iload_n hx hb dX11_hardest_35 rfl (lv_at hl 1 rfl) ?_
    refine z_aald C0 hP (k := 6) (i := ia) (rfl : zk 6 = 12) (by omega) rfl dX11_hardest_36 (fun at_2 hat_2 => ?_)
    have kat_2 : zIs at_2 tAth := hat_2 ▸ zIs_ath z_lit_Fie_1 (by omega)
    refine z_Vv C0 hP hD hA hS (As := [.ref (E.1 2), .ref (E.1 at_2)]) (rest := []) (k := 48) (c_X10_load l E _ 48 2 at_2 z_lit_Tri_48 z_lit_Cou_2 kat_2 (by omega) (by omega)) (cwV 2 hts (zgV zbw mlRX11_164 imX10_load seX10_load iniRX10 coX10_load) rfl rfl rfl (by decide +kernel) ⟨Nat.le_of_ble_eq_true rfl, Nat.le_of_ble_eq_true rfl⟩) (zk_lt (rfl : zk 48 = 8) (by decide)) (zd_8 E (rfl : zk 48 = 8) _) rfl rfl rfl hl.1 rfl (Nat.le_of_ble_eq_true rfl) dX11_hardest_37 ⟨Nat.zero_le _, Nat.zero_le _⟩ (fun G3 H locs hw3 hP hS => ?_)
    obtain ⟨hF3, hmn3, hkf3, hab3, htr3, hdr3⟩ := hw3
    have hTA3 := zTA_load (t := 48) hR hat_2 hia hmn3 hkf3 hab3 htr3
    have hTR3 := zTR_of hTA3 hdr3
    refine lv_iconst (v := (3 : Int32)) hx hb dX11_hardest_40 (by decide) ?_
    refine lv_istore_n (lv' := [(2, .int (3 : Int32)), (0, .ref (E.1 0)), (1, .int (nI ia))]) hx hb dX11_hardest_41 rfl hl (by decide) rfl (fun ls hl => ?_)
    refine lv_iload_n hx hb dX11_hardest_42 rfl (lv_at hl 0 rfl) ?_
    refine lv_if_lt (tgt := 80) hx hb dX11_hardest_43 (by decide) (fun h_ => absurd h_ (by decide)) (fun _ => ?_)
    refine lv_aload_n hx hb dX11_hardest_46 rfl (lv_at hl 1 rfl) ?_
    refine z_get C0 hP (C := RX11) (T := TX11) (N := 11) (ci := 9) (index := 44) (k := 0) (ref := "WetSuitPedalsShoes") (zk_lt (rfl : zk 0 = 9) (by decide)) (zd_9 E (rfl : zk 0 = 9) _) rfl (zmi inU_11) 6 (by decide) (zm flRX11_44) rfl (v := .ref (E.1 48)) (rfl) dX11_hardest_47 ?_
    refine lv_iload_n hx hb dX11_hardest_50 rfl (lv_at hl 0 rfl) ?_
    refine z_Vv C0 hP hD hA hS (As := [.int (3 : Int32)]) (rest := []) (k := 48) (c_X10_rideAt l E _ 48 n (3 : Int32) z_lit_Tri_48 (hTA3.1) (by omega) ) (cwV 1 hts (zgV zbw mlRX11_187 imX10_rideAt seX10_rideAt iniRX10 coX10_rideAt) rfl rfl rfl (by decide +kernel) ⟨Nat.le_of_ble_eq_true rfl, Nat.le_of_ble_eq_true rfl⟩) (zk_lt (rfl : zk 48 = 8) (by decide)) (zd_8 E (rfl : zk 48 = 8) _) rfl rfl rfl hl.1 rfl (Nat.le_of_ble_eq_true rfl) dX11_hardest_51 ⟨Nat.zero_le _, Nat.zero_le _⟩ (fun G4 H locs hw4 hP hS => ?_)
    obtain rfl := hw4
    have hR4 := zTR_ride (v := (3 : Int32)) hTR3 hn10 (by omega)
    obtain ⟨Gn_5, hGn_5⟩ : ∃ z : zG, z = (g1 G3 55 (s_rides (G3 50) (G3 55) (3 : Int32) n)) := ⟨_, rfl⟩
    rw [← hGn_5] at hP
    have hFGn_5 : ∀ k, (k < 55 ∨ 55 < k) → Gn_5 k = G3 k := fun k hk => by rw [hGn_5]; exact g1_n (by omega)
    rw [show g1 _ (48 + 7) _ = Gn_5 from hGn_5.symm] at hR4
    refine lv_aload_n hx hb dX11_hardest_54 rfl (lv_at hl 1 rfl) ?_
    refine z_get C0 hP (C := RX11) (T := TX11) (N := 11) (ci := 9) (index := 44) (k := 0) (ref := "WetSuitPedalsShoes") (zk_lt (rfl : zk 0 = 9) (by decide)) (zd_9 E (rfl : zk 0 = 9) _) rfl (zmi inU_11) 6 (by decide) (zm flRX11_44) rfl (v := .ref (E.1 48)) (rfl) dX11_hardest_55 ?_
    refine z_Vi C0 hP hD hA hS (As := []) (rest := []) (k := 48) (c_X10_run l E _ 48 n z_lit_Tri_48 ((congrFun (hFGn_5 _ (by decide)) _).trans (hTA3.1)) (by omega)) (cwV 0 hts (zgV zbw mlRX11_168 imX10_run seX10_run iniRX10 coX10_run) rfl rfl rfl (by decide +kernel) ⟨Nat.le_of_ble_eq_true rfl, Nat.le_of_ble_eq_true rfl⟩) (zk_lt (rfl : zk 48 = 8) (by decide)) (zd_8 E (rfl : zk 48 = 8) _) rfl rfl rfl hl.1 rfl (Nat.le_of_ble_eq_true rfl) dX11_hardest_58 ⟨Nat.zero_le _, Nat.zero_le _⟩ (fun r6 G6 H locs hw6 hP hS => ?_)
    obtain ⟨hr6, hF6, hrow6⟩ := hw6
    have hTR6 := zTR_fr hR4.2 hF6
    have hq6 := q_hd_c hR4.1 hkd hn10 (by omega) hR4.2.2.2.2.2 (hF6 54 (by omega)) hrow6
    refine lv_pop hx hb dX11_hardest_61 rfl ?_
    refine lv_aload_n hx hb dX11_hardest_62 rfl (lv_at hl 1 rfl) ?_
    refine z_get C0 hP (C := RX11) (T := TX11) (N := 11) (ci := 9) (index := 44) (k := 0) (ref := "WetSuitPedalsShoes") (zk_lt (rfl : zk 0 = 9) (by decide)) (zd_9 E (rfl : zk 0 = 9) _) rfl (zmi inU_11) 6 (by decide) (zm flRX11_44) rfl (v := .ref (E.1 48)) (rfl) dX11_hardest_63 ?_
    refine z_Vi C0 hP hD hA hS (As := []) (rest := []) (k := 48) (c_X10_legsAtFinish l E _ 48 n  z_lit_Tri_48 ((congrFun ((hF6 _ (by decide)).trans (hFGn_5 _ (by decide))) _).trans (hTA3.1)) (by omega) ) (cwV 0 hts (zgV zbw mlRX11_191 imX10_legsAtFinish seX10_legsAtFinish iniRX10 coX10_legsAtFinish) rfl rfl rfl (by decide +kernel) ⟨Nat.le_of_ble_eq_true rfl, Nat.le_of_ble_eq_true rfl⟩) (zk_lt (rfl : zk 48 = 8) (by decide)) (zd_8 E (rfl : zk 48 = 8) _) rfl rfl rfl hl.1 rfl (Nat.le_of_ble_eq_true rfl) dX11_hardest_66 ⟨Nat.zero_le _, Nat.zero_le _⟩ (fun r7 G7 H locs hw7 hP hS => ?_)
    obtain ⟨hr7, rfl⟩ := hw7
    have hr7 : q_hd r n ia (3 : Int32) = _ := hq6.symm.trans hr7
    subst hr7
    refine lv_if_le (tgt := 74) hx hb dX11_hardest_69 (by decide) (fun c_69 => ?_) (fun c_69 => ?_)
    · skip
      have d_69 := Int32.not_lt.mpr c_69
      refine lv_iinc (v := (2 : Int32)) (lv' := [(2, .int (2 : Int32)), (0, .ref (E.1 0)), (1, .int (nI ia))]) hx hb dX11_hardest_74 hl (k := 0) rfl (by decide) (by decide) rfl (fun ls hl => ?_)
      refine lv_goto (tgt := 42) hx hb dX11_hardest_77 (by decide) ?_
      refine lv_iload_n hx hb dX11_hardest_42 rfl (lv_at hl 0 rfl) ?_
      refine lv_if_lt (tgt := 80) hx hb dX11_hardest_43 (by decide) (fun h_ => absurd h_ (by decide)) (fun _ => ?_)
      refine lv_aload_n hx hb dX11_hardest_46 rfl (lv_at hl 1 rfl) ?_
      refine z_get C0 hP (C := RX11) (T := TX11) (N := 11) (ci := 9) (index := 44) (k := 0) (ref := "WetSuitPedalsShoes") (zk_lt (rfl : zk 0 = 9) (by decide)) (zd_9 E (rfl : zk 0 = 9) _) rfl (zmi inU_11) 6 (by decide) (zm flRX11_44) rfl (v := .ref (E.1 48)) (rfl) dX11_hardest_47 ?_
      refine lv_iload_n hx hb dX11_hardest_50 rfl (lv_at hl 0 rfl) ?_
      refine z_Vv C0 hP hD hA hS (As := [.int (2 : Int32)]) (rest := []) (k := 48) (c_X10_rideAt l E _ 48 n (2 : Int32) z_lit_Tri_48 ((congrFun ((hF6 _ (by decide)).trans (hFGn_5 _ (by decide))) _).trans (hTA3.1)) (by omega) ) (cwV 1 hts (zgV zbw mlRX11_187 imX10_rideAt seX10_rideAt iniRX10 coX10_rideAt) rfl rfl rfl (by decide +kernel) ⟨Nat.le_of_ble_eq_true rfl, Nat.le_of_ble_eq_true rfl⟩) (zk_lt (rfl : zk 48 = 8) (by decide)) (zd_8 E (rfl : zk 48 = 8) _) rfl rfl rfl hl.1 rfl (Nat.le_of_ble_eq_true rfl) dX11_hardest_51 ⟨Nat.zero_le _, Nat.zero_le _⟩ (fun G8 H locs hw8 hP hS => ?_)
      obtain rfl := hw8
      have hR8 := zTR_ride (v := (2 : Int32)) hTR6 hn10 (by omega)
      obtain ⟨Gn_9, hGn_9⟩ : ∃ z : zG, z = (g1 G6 55 (s_rides (G6 50) (G6 55) (2 : Int32) n)) := ⟨_, rfl⟩
      rw [← hGn_9] at hP
      have hFGn_9 : ∀ k, (k < 55 ∨ 55 < k) → Gn_9 k = G6 k := fun k hk => by rw [hGn_9]; exact g1_n (by omega)
      rw [show g1 _ (48 + 7) _ = Gn_9 from hGn_9.symm] at hR8
      refine lv_aload_n hx hb dX11_hardest_54 rfl (lv_at hl 1 rfl) ?_
      refine z_get C0 hP (C := RX11) (T := TX11) (N := 11) (ci := 9) (index := 44) (k := 0) (ref := "WetSuitPedalsShoes") (zk_lt (rfl : zk 0 = 9) (by decide)) (zd_9 E (rfl : zk 0 = 9) _) rfl (zmi inU_11) 6 (by decide) (zm flRX11_44) rfl (v := .ref (E.1 48)) (rfl) dX11_hardest_55 ?_
      refine z_Vi C0 hP hD hA hS (As := []) (rest := []) (k := 48) (c_X10_run l E _ 48 n z_lit_Tri_48 ((congrFun ((hFGn_9 _ (by decide)).trans ((hF6 _ (by decide)).trans (hFGn_5 _ (by decide)))) _).trans (hTA3.1)) (by omega)) (cwV 0 hts (zgV zbw mlRX11_168 imX10_run seX10_run iniRX10 coX10_run) rfl rfl rfl (by decide +kernel) ⟨Nat.le_of_ble_eq_true rfl, Nat.le_of_ble_eq_true rfl⟩) (zk_lt (rfl : zk 48 = 8) (by decide)) (zd_8 E (rfl : zk 48 = 8) _) rfl rfl rfl hl.1 rfl (Nat.le_of_ble_eq_true rfl) dX11_hardest_58 ⟨Nat.zero_le _, Nat.zero_le _⟩ (fun r10 G10 H locs hw10 hP hS => ?_)
      obtain ⟨hr10, hF10, hrow10⟩ := hw10
      have hTR10 := zTR_fr hR8.2 hF10
      have hq10 := q_hd_c hR8.1 hkd hn10 (by omega) hR8.2.2.2.2.2 (hF10 54 (by omega)) hrow10
      refine lv_pop hx hb dX11_hardest_61 rfl ?_
      refine lv_aload_n hx hb dX11_hardest_62 rfl (lv_at hl 1 rfl) ?_
      refine z_get C0 hP (C := RX11) (T := TX11) (N := 11) (ci := 9) (index := 44) (k := 0) (ref := "WetSuitPedalsShoes") (zk_lt (rfl : zk 0 = 9) (by decide)) (zd_9 E (rfl : zk 0 = 9) _) rfl (zmi inU_11) 6 (by decide) (zm flRX11_44) rfl (v := .ref (E.1 48)) (rfl) dX11_hardest_63 ?_
      refine z_Vi C0 hP hD hA hS (As := []) (rest := []) (k := 48) (c_X10_legsAtFinish l E _ 48 n  z_lit_Tri_48 ((congrFun ((hF10 _ (by decide)).trans ((hFGn_9 _ (by decide)).trans ((hF6 _ (by decide)).trans (hFGn_5 _ (by decide))))) _).trans (hTA3.1)) (by omega) ) (cwV 0 hts (zgV zbw mlRX11_191 imX10_legsAtFinish seX10_legsAtFinish iniRX10 coX10_legsAtFinish) rfl rfl rfl (by decide +kernel) ⟨Nat.le_of_ble_eq_true rfl, Nat.le_of_ble_eq_true rfl⟩) (zk_lt (rfl : zk 48 = 8) (by decide)) (zd_8 E (rfl : zk 48 = 8) _) rfl rfl rfl hl.1 rfl (Nat.le_of_ble_eq_true rfl) dX11_hardest_66 ⟨Nat.zero_le _, Nat.zero_le _⟩ (fun r11 G11 H locs hw11 hP hS => ?_)
      obtain ⟨hr11, rfl⟩ := hw11
      have hr11 : q_hd r n ia (2 : Int32) = _ := hq10.symm.trans hr11
      subst hr11
      refine lv_if_le (tgt := 74) hx hb dX11_hardest_69 (by decide) (fun c_69 => ?_) (fun c_69 => ?_)
      · skip
        have d_69 := Int32.not_lt.mpr c_69
        refine lv_iinc (v := (1 : Int32)) (lv' := [(2, .int (1 : Int32)), (0, .ref (E.1 0)), (1, .int (nI ia))]) hx hb dX11_hardest_74 hl (k := 0) rfl (by decide) (by decide) rfl (fun ls hl => ?_)
        refine lv_goto (tgt := 42) hx hb dX11_hardest_77 (by decide) ?_
        refine lv_iload_n hx hb dX11_hardest_42 rfl (lv_at hl 0 rfl) ?_
        refine lv_if_lt (tgt := 80) hx hb dX11_hardest_43 (by decide) (fun h_ => absurd h_ (by decide)) (fun _ => ?_)
        refine lv_aload_n hx hb dX11_hardest_46 rfl (lv_at hl 1 rfl) ?_
        refine z_get C0 hP (C := RX11) (T := TX11) (N := 11) (ci := 9) (index := 44) (k := 0) (ref := "WetSuitPedalsShoes") (zk_lt (rfl : zk 0 = 9) (by decide)) (zd_9 E (rfl : zk 0 = 9) _) rfl (zmi inU_11) 6 (by decide) (zm flRX11_44) rfl (v := .ref (E.1 48)) (rfl) dX11_hardest_47 ?_
        refine lv_iload_n hx hb dX11_hardest_50 rfl (lv_at hl 0 rfl) ?_
        refine z_Vv C0 hP hD hA hS (As := [.int (1 : Int32)]) (rest := []) (k := 48) (c_X10_rideAt l E _ 48 n (1 : Int32) z_lit_Tri_48 ((congrFun ((hF10 _ (by decide)).trans ((hFGn_9 _ (by decide)).trans ((hF6 _ (by decide)).trans (hFGn_5 _ (by decide))))) _).trans (hTA3.1)) (by omega) ) (cwV 1 hts (zgV zbw mlRX11_187 imX10_rideAt seX10_rideAt iniRX10 coX10_rideAt) rfl rfl rfl (by decide +kernel) ⟨Nat.le_of_ble_eq_true rfl, Nat.le_of_ble_eq_true rfl⟩) (zk_lt (rfl : zk 48 = 8) (by decide)) (zd_8 E (rfl : zk 48 = 8) _) rfl rfl rfl hl.1 rfl (Nat.le_of_ble_eq_true rfl) dX11_hardest_51 ⟨Nat.zero_le _, Nat.zero_le _⟩ (fun G12 H locs hw12 hP hS => ?_)
        obtain rfl := hw12
        have hR12 := zTR_ride (v := (1 : Int32)) hTR10 hn10 (by omega)
        obtain ⟨Gn_13, hGn_13⟩ : ∃ z : zG, z = (g1 G10 55 (s_rides (G10 50) (G10 55) (1 : Int32) n)) := ⟨_, rfl⟩
        rw [← hGn_13] at hP
        have hFGn_13 : ∀ k, (k < 55 ∨ 55 < k) → Gn_13 k = G10 k := fun k hk => by rw [hGn_13]; exact g1_n (by omega)
        rw [show g1 _ (48 + 7) _ = Gn_13 from hGn_13.symm] at hR12
        refine lv_aload_n hx hb dX11_hardest_54 rfl (lv_at hl 1 rfl) ?_
        refine z_get C0 hP (C := RX11) (T := TX11) (N := 11) (ci := 9) (index := 44) (k := 0) (ref := "WetSuitPedalsShoes") (zk_lt (rfl : zk 0 = 9) (by decide)) (zd_9 E (rfl : zk 0 = 9) _) rfl (zmi inU_11) 6 (by decide) (zm flRX11_44) rfl (v := .ref (E.1 48)) (rfl) dX11_hardest_55 ?_
        refine z_Vi C0 hP hD hA hS (As := []) (rest := []) (k := 48) (c_X10_run l E _ 48 n z_lit_Tri_48 ((congrFun ((hFGn_13 _ (by decide)).trans ((hF10 _ (by decide)).trans ((hFGn_9 _ (by decide)).trans ((hF6 _ (by decide)).trans (hFGn_5 _ (by decide)))))) _).trans (hTA3.1)) (by omega)) (cwV 0 hts (zgV zbw mlRX11_168 imX10_run seX10_run iniRX10 coX10_run) rfl rfl rfl (by decide +kernel) ⟨Nat.le_of_ble_eq_true rfl, Nat.le_of_ble_eq_true rfl⟩) (zk_lt (rfl : zk 48 = 8) (by decide)) (zd_8 E (rfl : zk 48 = 8) _) rfl rfl rfl hl.1 rfl (Nat.le_of_ble_eq_true rfl) dX11_hardest_58 ⟨Nat.zero_le _, Nat.zero_le _⟩ (fun r14 G14 H locs hw14 hP hS => ?_)
        obtain ⟨hr14, hF14, hrow14⟩ := hw14
        have hTR14 := zTR_fr hR12.2 hF14
        have hq14 := q_hd_c hR12.1 hkd hn10 (by omega) hR12.2.2.2.2.2 (hF14 54 (by omega)) hrow14
        refine lv_pop hx hb dX11_hardest_61 rfl ?_
        refine lv_aload_n hx hb dX11_hardest_62 rfl (lv_at hl 1 rfl) ?_
        refine z_get C0 hP (C := RX11) (T := TX11) (N := 11) (ci := 9) (index := 44) (k := 0) (ref := "WetSuitPedalsShoes") (zk_lt (rfl : zk 0 = 9) (by decide)) (zd_9 E (rfl : zk 0 = 9) _) rfl (zmi inU_11) 6 (by decide) (zm flRX11_44) rfl (v := .ref (E.1 48)) (rfl) dX11_hardest_63 ?_
        refine z_Vi C0 hP hD hA hS (As := []) (rest := []) (k := 48) (c_X10_legsAtFinish l E _ 48 n  z_lit_Tri_48 ((congrFun ((hF14 _ (by decide)).trans ((hFGn_13 _ (by decide)).trans ((hF10 _ (by decide)).trans ((hFGn_9 _ (by decide)).trans ((hF6 _ (by decide)).trans (hFGn_5 _ (by decide))))))) _).trans (hTA3.1)) (by omega) ) (cwV 0 hts (zgV zbw mlRX11_191 imX10_legsAtFinish seX10_legsAtFinish iniRX10 coX10_legsAtFinish) rfl rfl rfl (by decide +kernel) ⟨Nat.le_of_ble_eq_true rfl, Nat.le_of_ble_eq_true rfl⟩) (zk_lt (rfl : zk 48 = 8) (by decide)) (zd_8 E (rfl : zk 48 = 8) _) rfl rfl rfl hl.1 rfl (Nat.le_of_ble_eq_true rfl) dX11_hardest_66 ⟨Nat.zero_le _, Nat.zero_le _⟩ (fun r15 G15 H locs hw15 hP hS => ?_)
        obtain ⟨hr15, rfl⟩ := hw15
        have hr15 : q_hd r n ia (1 : Int32) = _ := hq14.symm.trans hr15
        subst hr15
        refine lv_if_le (tgt := 74) hx hb dX11_hardest_69 (by decide) (fun c_69 => ?_) (fun c_69 => ?_)
        · skip
          have d_69 := Int32.not_lt.mpr c_69
          refine lv_iinc (v := (0 : Int32)) (lv' := [(2, .int (0 : Int32)), (0, .ref (E.1 0)), (1, .int (nI ia))]) hx hb dX11_hardest_74 hl (k := 0) rfl (by decide) (by decide) rfl (fun ls hl => ?_)
          refine lv_goto (tgt := 42) hx hb dX11_hardest_77 (by decide) ?_
          refine lv_iload_n hx hb dX11_hardest_42 rfl (lv_at hl 0 rfl) ?_
          refine lv_if_lt (tgt := 80) hx hb dX11_hardest_43 (by decide) (fun h_ => absurd h_ (by decide)) (fun _ => ?_)
          refine lv_aload_n hx hb dX11_hardest_46 rfl (lv_at hl 1 rfl) ?_
          refine z_get C0 hP (C := RX11) (T := TX11) (N := 11) (ci := 9) (index := 44) (k := 0) (ref := "WetSuitPedalsShoes") (zk_lt (rfl : zk 0 = 9) (by decide)) (zd_9 E (rfl : zk 0 = 9) _) rfl (zmi inU_11) 6 (by decide) (zm flRX11_44) rfl (v := .ref (E.1 48)) (rfl) dX11_hardest_47 ?_
          refine lv_iload_n hx hb dX11_hardest_50 rfl (lv_at hl 0 rfl) ?_
          refine z_Vv C0 hP hD hA hS (As := [.int (0 : Int32)]) (rest := []) (k := 48) (c_X10_rideAt l E _ 48 n (0 : Int32) z_lit_Tri_48 ((congrFun ((hF14 _ (by decide)).trans ((hFGn_13 _ (by decide)).trans ((hF10 _ (by decide)).trans ((hFGn_9 _ (by decide)).trans ((hF6 _ (by decide)).trans (hFGn_5 _ (by decide))))))) _).trans (hTA3.1)) (by omega) ) (cwV 1 hts (zgV zbw mlRX11_187 imX10_rideAt seX10_rideAt iniRX10 coX10_rideAt) rfl rfl rfl (by decide +kernel) ⟨Nat.le_of_ble_eq_true rfl, Nat.le_of_ble_eq_true rfl⟩) (zk_lt (rfl : zk 48 = 8) (by decide)) (zd_8 E (rfl : zk 48 = 8) _) rfl rfl rfl hl.1 rfl (Nat.le_of_ble_eq_true rfl) dX11_hardest_51 ⟨Nat.zero_le _, Nat.zero_le _⟩ (fun G16 H locs hw16 hP hS => ?_)
          obtain rfl := hw16
          have hR16 := zTR_ride (v := (0 : Int32)) hTR14 hn10 (by omega)
          obtain ⟨Gn_17, hGn_17⟩ : ∃ z : zG, z = (g1 G14 55 (s_rides (G14 50) (G14 55) (0 : Int32) n)) := ⟨_, rfl⟩
          rw [← hGn_17] at hP
          have hFGn_17 : ∀ k, (k < 55 ∨ 55 < k) → Gn_17 k = G14 k := fun k hk => by rw [hGn_17]; exact g1_n (by omega)
          rw [show g1 _ (48 + 7) _ = Gn_17 from hGn_17.symm] at hR16
          refine lv_aload_n hx hb dX11_hardest_54 rfl (lv_at hl 1 rfl) ?_
          refine z_get C0 hP (C := RX11) (T := TX11) (N := 11) (ci := 9) (index := 44) (k := 0) (ref := "WetSuitPedalsShoes") (zk_lt (rfl : zk 0 = 9) (by decide)) (zd_9 E (rfl : zk 0 = 9) _) rfl (zmi inU_11) 6 (by decide) (zm flRX11_44) rfl (v := .ref (E.1 48)) (rfl) dX11_hardest_55 ?_
          refine z_Vi C0 hP hD hA hS (As := []) (rest := []) (k := 48) (c_X10_run l E _ 48 n z_lit_Tri_48 ((congrFun ((hFGn_17 _ (by decide)).trans ((hF14 _ (by decide)).trans ((hFGn_13 _ (by decide)).trans ((hF10 _ (by decide)).trans ((hFGn_9 _ (by decide)).trans ((hF6 _ (by decide)).trans (hFGn_5 _ (by decide)))))))) _).trans (hTA3.1)) (by omega)) (cwV 0 hts (zgV zbw mlRX11_168 imX10_run seX10_run iniRX10 coX10_run) rfl rfl rfl (by decide +kernel) ⟨Nat.le_of_ble_eq_true rfl, Nat.le_of_ble_eq_true rfl⟩) (zk_lt (rfl : zk 48 = 8) (by decide)) (zd_8 E (rfl : zk 48 = 8) _) rfl rfl rfl hl.1 rfl (Nat.le_of_ble_eq_true rfl) dX11_hardest_58 ⟨Nat.zero_le _, Nat.zero_le _⟩ (fun r18 G18 H locs hw18 hP hS => ?_)
          obtain ⟨hr18, hF18, hrow18⟩ := hw18
          have hTR18 := zTR_fr hR16.2 hF18
          have hq18 := q_hd_c hR16.1 hkd hn10 (by omega) hR16.2.2.2.2.2 (hF18 54 (by omega)) hrow18
          refine lv_pop hx hb dX11_hardest_61 rfl ?_
          refine lv_aload_n hx hb dX11_hardest_62 rfl (lv_at hl 1 rfl) ?_
          refine z_get C0 hP (C := RX11) (T := TX11) (N := 11) (ci := 9) (index := 44) (k := 0) (ref := "WetSuitPedalsShoes") (zk_lt (rfl : zk 0 = 9) (by decide)) (zd_9 E (rfl : zk 0 = 9) _) rfl (zmi inU_11) 6 (by decide) (zm flRX11_44) rfl (v := .ref (E.1 48)) (rfl) dX11_hardest_63 ?_
          refine z_Vi C0 hP hD hA hS (As := []) (rest := []) (k := 48) (c_X10_legsAtFinish l E _ 48 n  z_lit_Tri_48 ((congrFun ((hF18 _ (by decide)).trans ((hFGn_17 _ (by decide)).trans ((hF14 _ (by decide)).trans ((hFGn_13 _ (by decide)).trans ((hF10 _ (by decide)).trans ((hFGn_9 _ (by decide)).trans ((hF6 _ (by decide)).trans (hFGn_5 _ (by decide))))))))) _).trans (hTA3.1)) (by omega) ) (cwV 0 hts (zgV zbw mlRX11_191 imX10_legsAtFinish seX10_legsAtFinish iniRX10 coX10_legsAtFinish) rfl rfl rfl (by decide +kernel) ⟨Nat.le_of_ble_eq_true rfl, Nat.le_of_ble_eq_true rfl⟩) (zk_lt (rfl : zk 48 = 8) (by decide)) (zd_8 E (rfl : zk 48 = 8) _) rfl rfl rfl hl.1 rfl (Nat.le_of_ble_eq_true rfl) dX11_hardest_66 ⟨Nat.zero_le _, Nat.zero_le _⟩ (fun r19 G19 H locs hw19 hP hS => ?_)
          obtain ⟨hr19, rfl⟩ := hw19
          have hr19 : q_hd r n ia (0 : Int32) = _ := hq18.symm.trans hr19
          subst hr19
          refine lv_if_le (tgt := 74) hx hb dX11_hardest_69 (by decide) (fun c_69 => ?_) (fun c_69 => ?_)
          · skip
            have d_69 := Int32.not_lt.mpr c_69
            refine lv_iinc (v := (-1 : Int32)) (lv' := [(2, .int (-1 : Int32)), (0, .ref (E.1 0)), (1, .int (nI ia))]) hx hb dX11_hardest_74 hl (k := 0) rfl (by decide) (by decide) rfl (fun ls hl => ?_)
            refine lv_goto (tgt := 42) hx hb dX11_hardest_77 (by decide) ?_
            refine lv_iload_n hx hb dX11_hardest_42 rfl (lv_at hl 0 rfl) ?_
            refine lv_if_lt (tgt := 80) hx hb dX11_hardest_43 (by decide) (fun _ => ?_) (fun h_ => absurd (by decide) h_)
            refine lv_bipush (v := (-9 : Int32)) hx hb dX11_hardest_80 (by decide) ?_
            subst hQ_
            exact z_iret C0 hP hS (v := (-9 : Int32)) (by exact zQc_of (k := 0) (by simp [A_hardest, hz_ia, hy_ia, d_69, d_69, d_69, d_69]) (fun k hk => (hF18 k (by omega)).trans ((hFGn_17 k (by omega)).trans ((hF14 k (by omega)).trans ((hFGn_13 k (by omega)).trans ((hF10 k (by omega)).trans ((hFGn_9 k (by omega)).trans ((hF6 k (by omega)).trans ((hFGn_5 k (by omega)).trans (hF3 k (by omega)))))))))) ((hF18 _ (by decide)).trans ((hFGn_17 _ (by decide)).trans ((hF14 _ (by decide)).trans ((hFGn_13 _ (by decide)).trans ((hF10 _ (by decide)).trans ((hFGn_9 _ (by decide)).trans ((hF6 _ (by decide)).trans ((hFGn_5 _ (by decide)).trans (hF3 _ (by decide)))))))))) (z_plk ((hF18 _ (by decide)).trans ((hFGn_17 _ (by decide)).trans ((hF14 _ (by decide)).trans ((hFGn_13 _ (by decide)).trans ((hF10 _ (by decide)).trans ((hFGn_9 _ (by decide)).trans ((hF6 _ (by decide)).trans ((hFGn_5 _ (by decide)).trans (hF3 _ (by decide)))))))))) hp)) dX11_hardest_82
          · skip
            have d_69 := Int32.not_le.mp c_69
            refine lv_iload_n hx hb dX11_hardest_72 rfl (lv_at hl 0 rfl) ?_
            subst hQ_
            exact z_iret C0 hP hS (v := (0 : Int32)) (by exact zQc_of (k := 0) (by simp [A_hardest, hz_ia, hy_ia, d_69, d_69, d_69, d_69]) (fun k hk => (hF18 k (by omega)).trans ((hFGn_17 k (by omega)).trans ((hF14 k (by omega)).trans ((hFGn_13 k (by omega)).trans ((hF10 k (by omega)).trans ((hFGn_9 k (by omega)).trans ((hF6 k (by omega)).trans ((hFGn_5 k (by omega)).trans (hF3 k (by omega)))))))))) ((hF18 _ (by decide)).trans ((hFGn_17 _ (by decide)).trans ((hF14 _ (by decide)).trans ((hFGn_13 _ (by decide)).trans ((hF10 _ (by decide)).trans ((hFGn_9 _ (by decide)).trans ((hF6 _ (by decide)).trans ((hFGn_5 _ (by decide)).trans (hF3 _ (by decide)))))))))) (z_plk ((hF18 _ (by decide)).trans ((hFGn_17 _ (by decide)).trans ((hF14 _ (by decide)).trans ((hFGn_13 _ (by decide)).trans ((hF10 _ (by decide)).trans ((hFGn_9 _ (by decide)).trans ((hF6 _ (by decide)).trans ((hFGn_5 _ (by decide)).trans (hF3 _ (by decide)))))))))) hp)) dX11_hardest_73
        · skip
          have d_69 := Int32.not_le.mp c_69
          refine lv_iload_n hx hb dX11_hardest_72 rfl (lv_at hl 0 rfl) ?_
          subst hQ_
          exact z_iret C0 hP hS (v := (1 : Int32)) (by exact zQc_of (k := 0) (by simp [A_hardest, hz_ia, hy_ia, d_69, d_69, d_69]) (fun k hk => (hF14 k (by omega)).trans ((hFGn_13 k (by omega)).trans ((hF10 k (by omega)).trans ((hFGn_9 k (by omega)).trans ((hF6 k (by omega)).trans ((hFGn_5 k (by omega)).trans (hF3 k (by omega)))))))) ((hF14 _ (by decide)).trans ((hFGn_13 _ (by decide)).trans ((hF10 _ (by decide)).trans ((hFGn_9 _ (by decide)).trans ((hF6 _ (by decide)).trans ((hFGn_5 _ (by decide)).trans (hF3 _ (by decide)))))))) (z_plk ((hF14 _ (by decide)).trans ((hFGn_13 _ (by decide)).trans ((hF10 _ (by decide)).trans ((hFGn_9 _ (by decide)).trans ((hF6 _ (by decide)).trans ((hFGn_5 _ (by decide)).trans (hF3 _ (by decide)))))))) hp)) dX11_hardest_73
      · skip
        have d_69 := Int32.not_le.mp c_69
        refine lv_iload_n hx hb dX11_hardest_72 rfl (lv_at hl 0 rfl) ?_
        subst hQ_
        exact z_iret C0 hP hS (v := (2 : Int32)) (by exact zQc_of (k := 0) (by simp [A_hardest, hz_ia, hy_ia, d_69, d_69]) (fun k hk => (hF10 k (by omega)).trans ((hFGn_9 k (by omega)).trans ((hF6 k (by omega)).trans ((hFGn_5 k (by omega)).trans (hF3 k (by omega)))))) ((hF10 _ (by decide)).trans ((hFGn_9 _ (by decide)).trans ((hF6 _ (by decide)).trans ((hFGn_5 _ (by decide)).trans (hF3 _ (by decide)))))) (z_plk ((hF10 _ (by decide)).trans ((hFGn_9 _ (by decide)).trans ((hF6 _ (by decide)).trans ((hFGn_5 _ (by decide)).trans (hF3 _ (by decide)))))) hp)) dX11_hardest_73
    · skip
      have d_69 := Int32.not_le.mp c_69
      refine lv_iload_n hx hb dX11_hardest_72 rfl (lv_at hl 0 rfl) ?_
      subst hQ_
      exact z_iret C0 hP hS (v := (3 : Int32)) (by exact zQc_of (k := 0) (by simp [A_hardest, hz_ia, hy_ia, d_69]) (fun k hk => (hF6 k (by omega)).trans ((hFGn_5 k (by omega)).trans (hF3 k (by omega)))) ((hF6 _ (by decide)).trans ((hFGn_5 _ (by decide)).trans (hF3 _ (by decide)))) (z_plk ((hF6 _ (by decide)).trans ((hFGn_5 _ (by decide)).trans (hF3 _ (by decide)))) hp)) dX11_hardest_73
  · skip
    have hz_ia := zin_f (by omega) hno1
    refine lv_if_ne (tgt := 17) hx hb dX11_hardest_8 (by decide) (fun h_ => absurd (by decide) h_) (fun _ => ?_)
    refine lv_aload_n hx hb dX11_hardest_11 rfl (lv_at hl 0 rfl) ?_
    refine lv_iconst (v := (-1 : Int32)) hx hb dX11_hardest_12 (by decide) ?_
    refine z_Vi C0 hP hD hA hS (As := [.int (-1 : Int32)]) (rest := []) (k := 0) (c_X11_refuse l E _ (-1 : Int32) 1 (by decide) (by decide) (by decide)) (cwV 1 hts (zgV zbw mlRX11_72 imX11_refuse seX11_refuse iniRX11 coX11_refuse) rfl rfl rfl (by decide +kernel) ⟨Nat.le_of_ble_eq_true rfl, Nat.le_of_ble_eq_true rfl⟩) (zk_lt (rfl : zk 0 = 9) (by decide)) (zd_9 E (rfl : zk 0 = 9) _) rfl rfl rfl hl.1 rfl (Nat.le_of_ble_eq_true rfl) dX11_hardest_13 ⟨Nat.zero_le _, Nat.zero_le _⟩ (fun r20 G20 H locs hw20 hP hS => ?_)
    obtain ⟨rfl, rfl⟩ := hw20
    subst hQ_
    exact z_iret C0 hP hS (v := (-1 : Int32)) (by exact zQc_of (k := 1) (by simp [A_hardest, hz_ia]) (fun k hk => g1_n (by omega)) (g1_s _ _ _) (z_plk (g1_n (by decide)) hp)) dX11_hardest_16
set_option maxHeartbeats 4000000 in
set_option maxRecDepth 100000 in
theorem c_X12_hardest (l : Launch) (E : zE) (G : zG) (r : Nat → Int32) (n na : Nat) (athlete : Int32) (hM : G 93 = r) (hrn : r 0 = nI n) (hrna : r 1 = nI na) (hn10 : n ≤ 10) (hna : na ≤ 5) : zMi l yX12_hardest wsX12_hardest ({ frames := 6, cells := 0, slots := 0, locals := 142 } : Room) E G [.ref (E.1 92), .int athlete] (fun r1 G1 => zQm (A_hardest r n na athlete) G r1 G1) := by
  refine zOf (cc := cX12_hardest) (nL := 5) (ret := (some .int)) RX12 (by decide) rfl rfl (Nat.le_of_ble_eq_true rfl) ?_
  intro p_ e_ s_ m_ a_ b_ me_ c_ ls C0 hP hS hl
  have hx := C0.1
  have hb := C0.2.1
  have hts := C0.2.2.2.2.1
  have hD : zD E (zA E s_.heap.size) := C0.2.2.2.2.2.2.2.2
  have hA : ∀ q : Nat, s_.heap.size ≤ q → zA E s_.heap.size q := fun q h => Or.inr h
  refine z_gen (fun Q_ hQ_ => ?_)
  have hl : lv_has ls 5 [(0, .ref (E.1 92)), (1, .int athlete)] := hl
  refine lv_aload_n hx hb dX12_hardest_0 rfl (lv_at hl 0 rfl) ?_
  refine lv_iload_n hx hb dX12_hardest_1 rfl (lv_at hl 1 rfl) ?_
  refine z_Vi C0 hP hD hA hS (As := [.int athlete]) (rest := []) (k := 92) (c_X12_isAthlete l E _ na athlete ((congrFun (hM) _).trans (hrna)) (by omega)) (cwV 1 hts (zgV zbw mlRX12_136 imX12_isAthlete seX12_isAthlete iniRX12 coX12_isAthlete) rfl rfl rfl (by decide +kernel) ⟨Nat.le_of_ble_eq_true rfl, Nat.le_of_ble_eq_true rfl⟩) (zk_lt (rfl : zk 92 = 10) (by decide)) (zd_10 E (rfl : zk 92 = 10) _) rfl rfl rfl hl.1 rfl (Nat.le_of_ble_eq_true rfl) dX12_hardest_2 ⟨Nat.zero_le _, Nat.zero_le _⟩ (fun r1 G1 H locs hw1 hP hS => ?_)
  rcases hw1 with ⟨rfl, rfl, ia, hia, rfl⟩ | ⟨rfl, rfl, hno1⟩
  · skip
    have hz_ia := zin_t hia (by omega)
    have hy_ia : zix (nI ia) = ia := zix_n (by omega)
    refine lv_if_ne (tgt := 14) hx hb dX12_hardest_5 (by decide) (fun _ => ?_) (fun h_ => absurd h_ (by decide))
    refine lv_iconst (v := (3 : Int32)) hx hb dX12_hardest_14 (by decide) ?_
    refine lv_istore_n (lv' := [(2, .int (3 : Int32)), (0, .ref (E.1 92)), (1, .int (nI ia))]) hx hb dX12_hardest_15 rfl hl (by decide) rfl (fun ls hl => ?_)
    refine lv_iload_n hx hb dX12_hardest_16 rfl (lv_at hl 0 rfl) ?_
    refine lv_if_lt (tgt := 131) hx hb dX12_hardest_17 (by decide) (fun h_ => absurd h_ (by decide)) (fun _ => ?_)
    refine lv_aload_n hx hb dX12_hardest_20 rfl (lv_at hl 1 rfl) ?_
    refine z_get C0 hP (C := RX12) (T := TX12) (N := 21) (ci := 10) (index := 9) (k := 92) (ref := "WetSuitPedalsShoesModel") (zk_lt (rfl : zk 92 = 10) (by decide)) (zd_10 E (rfl : zk 92 = 10) _) rfl (zmi inU_12) 0 (by decide) (zm flRX12_9) rfl (v := .ref (E.1 93)) (rfl) dX12_hardest_21 ?_
    refine lv_aload_n hx hb dX12_hardest_24 rfl (lv_at hl 1 rfl) ?_
    refine z_get C0 hP (C := RX12) (T := TX12) (N := 21) (ci := 10) (index := 13) (k := 92) (ref := "WetSuitPedalsShoesModel") (zk_lt (rfl : zk 92 = 10) (by decide)) (zd_10 E (rfl : zk 92 = 10) _) rfl (zmi inU_12) 1 (by decide) (zm flRX12_13) rfl (v := .ref (E.1 94)) (rfl) dX12_hardest_25 ?_
    refine z_Sv C0 hP hD hA hS (As := [.ref (E.1 93), .ref (E.1 94)]) (rest := []) (c_X12_lays l E _ 93 94 z_lit_Arr102_93 z_lit_Arr102_94 (by decide)) (va_cwS 2 hts (zgS zbw mlRX12_149 stX12_lays iniRX12 coX12_lays) rfl rfl rfl (by decide +kernel) ⟨Nat.le_of_ble_eq_true rfl, Nat.le_of_ble_eq_true rfl⟩) rfl hl.1 rfl (Nat.le_of_ble_eq_true rfl) dX12_hardest_28 ⟨Nat.zero_le _, Nat.zero_le _⟩ (fun G2 H locs hw2 hP hS => ?_)
    obtain ⟨hF2, hcp2⟩ := hw2
    refine lv_iconst (v := (0 : Int32)) hx hb dX12_hardest_31 (by decide) ?_
    refine lv_istore_n (lv' := [(3, .int (0 : Int32)), (2, .int (3 : Int32)), (0, .ref (E.1 92)), (1, .int (nI ia))]) hx hb dX12_hardest_32 rfl hl (by decide) rfl (fun ls hl => ?_)
    have cut_33 : ∀ (fuel : Nat), ∀ (i : Nat) (f : Nat → Int32) (H : Heap) (locs : List Loc) (ls : Array Slot), (i ≤ n) → (∀ j, j < 102 → f j = s_rd r ia (3 : Int32) i j) → zP E (g1 G2 94 f) H → va_S (zA E s_.heap.size) s_.heap H locs → lv_has ls 5 [(0, .ref (E.1 92)), (1, .int (nI ia)), (2, .int (3 : Int32)), (3, .int (nI i))] → n - i < fuel → W p_ l e_ ({ frames := 6, cells := 0, slots := 0, locals := 142 } : Room) s_ m_ a_ b_ me_ c_ H locs 0 0 Q_ (F0 m_ 33 ls []) := by
      intro fuel
      induction fuel with
      | zero =>
        intro i  f  H locs ls hin hf hP hS hl hfu
        exact absurd hfu (Nat.not_lt_zero _)
      | succ fuel ih_33 =>
        intro i  f  H locs ls hin hf hP hS hl hfu_33
        refine lv_iload_n hx hb dX12_hardest_33 rfl (lv_at hl 3 rfl) ?_
        refine lv_aload_n hx hb dX12_hardest_34 rfl (lv_at hl 0 rfl) ?_
        refine z_get C0 hP (C := RX12) (T := TX12) (N := 21) (ci := 10) (index := 9) (k := 92) (ref := "WetSuitPedalsShoesModel") (zk_lt (rfl : zk 92 = 10) (by decide)) (zd_10 E (rfl : zk 92 = 10) _) rfl (zmi inU_12) 0 (by decide) (zm flRX12_9) rfl (v := .ref (E.1 93)) (rfl) dX12_hardest_35 ?_
        refine lv_iconst (v := (0 : Int32)) hx hb dX12_hardest_38 (by decide) ?_
        refine z_iald C0 hP (k := 93) (i := 0) (v := (nI n)) (rfl : zk 93 = 11) (Nat.lt_of_lt_of_eq (show 0 < 102 by decide) (rfl : zl 93 = 102).symm) rfl dX12_hardest_39 ((congrFun ((g1_n (by decide)).trans ((hF2 _ (by decide)).trans (hM))) _).trans (hrn)) ?_
        refine z_N_ge hx hb (a := i) (b := n) (tgt := 71) dX12_hardest_40 rfl rfl (by omega) (by omega) (by decide) (fun c_40 => ?_) (fun c_40 => ?_)
        · skip
          refine lv_aload_n hx hb dX12_hardest_71 rfl (lv_at hl 0 rfl) ?_
          refine lv_aload_n hx hb dX12_hardest_72 rfl (lv_at hl 0 rfl) ?_
          refine z_get C0 hP (C := RX12) (T := TX12) (N := 21) (ci := 10) (index := 13) (k := 92) (ref := "WetSuitPedalsShoesModel") (zk_lt (rfl : zk 92 = 10) (by decide)) (zd_10 E (rfl : zk 92 = 10) _) rfl (zmi inU_12) 1 (by decide) (zm flRX12_13) rfl (v := .ref (E.1 94)) (rfl) dX12_hardest_73 ?_
          refine lv_iload_n hx hb dX12_hardest_76 rfl (lv_at hl 1 rfl) ?_
          refine z_Vi C0 hP hD hA hS (As := [.ref (E.1 94), .int (nI ia)]) (rest := []) (k := 92) (c_X12_finishOf l E _ 94 ia n z_lit_Arr102_94 (by omega) ((congrFun (g1_s _ _ _) _).trans ((hf 0 (by decide)).trans ((s_rd_o _ 0 (by omega)).trans hrn))) (by omega) (by omega)) (cwV 2 hts (zgV zbw mlRX12_156 imX12_finishOf seX12_finishOf iniRX12 coX12_finishOf) rfl rfl rfl (by decide +kernel) ⟨Nat.le_of_ble_eq_true rfl, Nat.le_of_ble_eq_true rfl⟩) (zk_lt (rfl : zk 92 = 10) (by decide)) (zd_10 E (rfl : zk 92 = 10) _) rfl rfl rfl hl.1 rfl (Nat.le_of_ble_eq_true rfl) dX12_hardest_77 ⟨Nat.zero_le _, Nat.zero_le _⟩ (fun r3 G3 H locs hw3 hP hS => ?_)
          obtain ⟨hr3, hF3, hrow3⟩ := hw3
          rw [show (g1 G2 94 f) 94 = f from g1_s _ _ _] at hr3 hrow3
          refine lv_istore_n (lv' := [(3, .int r3), (0, .ref (E.1 92)), (1, .int (nI ia)), (2, .int (3 : Int32))]) hx hb dX12_hardest_80 rfl hl (by decide) rfl (fun ls hl => ?_)
          refine lv_aload_n hx hb dX12_hardest_81 rfl (lv_at hl 1 rfl) ?_
          refine z_get C0 hP (C := RX12) (T := TX12) (N := 21) (ci := 10) (index := 9) (k := 92) (ref := "WetSuitPedalsShoesModel") (zk_lt (rfl : zk 92 = 10) (by decide)) (zd_10 E (rfl : zk 92 = 10) _) rfl (zmi inU_12) 0 (by decide) (zm flRX12_9) rfl (v := .ref (E.1 93)) (rfl) dX12_hardest_82 ?_
          refine lv_iconst (v := (0 : Int32)) hx hb dX12_hardest_85 (by decide) ?_
          refine z_iald C0 hP (k := 93) (i := 0) (v := (nI n)) (rfl : zk 93 = 11) (Nat.lt_of_lt_of_eq (show 0 < 102 by decide) (rfl : zl 93 = 102).symm) rfl dX12_hardest_86 ((congrFun ((hF3 _ (by decide)).trans ((g1_n (by decide)).trans ((hF2 _ (by decide)).trans (hM)))) _).trans (hrn)) ?_
          refine z_0_ne hx hb (a := n) (tgt := 103) dX12_hardest_87 rfl (by omega) (by decide) (fun c_87 => ?_) (fun c_87 => ?_)
          · skip
            refine lv_aload_n hx hb dX12_hardest_103 rfl (lv_at hl 1 rfl) ?_
            refine z_get C0 hP (C := RX12) (T := TX12) (N := 21) (ci := 10) (index := 34) (k := 92) (ref := "WetSuitPedalsShoesModel") (zk_lt (rfl : zk 92 = 10) (by decide)) (zd_10 E (rfl : zk 92 = 10) _) rfl (zmi inU_12) 11 (by decide) (zm flRX12_34) rfl (v := .ref (E.1 101)) (rfl) dX12_hardest_104 ?_
            refine lv_aload_n hx hb dX12_hardest_107 rfl (lv_at hl 1 rfl) ?_
            refine z_get C0 hP (C := RX12) (T := TX12) (N := 21) (ci := 10) (index := 9) (k := 92) (ref := "WetSuitPedalsShoesModel") (zk_lt (rfl : zk 92 = 10) (by decide)) (zd_10 E (rfl : zk 92 = 10) _) rfl (zmi inU_12) 0 (by decide) (zm flRX12_9) rfl (v := .ref (E.1 93)) (rfl) dX12_hardest_108 ?_
            refine lv_iconst (v := (0 : Int32)) hx hb dX12_hardest_111 (by decide) ?_
            refine z_iald C0 hP (k := 93) (i := 0) (v := (nI n)) (rfl : zk 93 = 11) (Nat.lt_of_lt_of_eq (show 0 < 102 by decide) (rfl : zl 93 = 102).symm) rfl dX12_hardest_112 ((congrFun ((hF3 _ (by decide)).trans ((g1_n (by decide)).trans ((hF2 _ (by decide)).trans (hM)))) _).trans (hrn)) ?_
            refine lv_iconst (v := (1 : Int32)) hx hb dX12_hardest_113 (by decide) ?_
            refine z_isub hx hb (a := n) (b := 1) (n := n - 1) dX12_hardest_114 rfl rfl (by omega) (by omega) ?_
            refine z_iald C0 hP (k := 101) (i := n - 1) (v := ((m_run f ia (-1) (n - 1 + 1)).1)) (rfl : zk 101 = 11) (Nat.lt_of_lt_of_eq (show n - 1 < 10 by omega) (rfl : zl 101 = 10).symm) rfl dX12_hardest_115 ((hrow3 (n - 1) (by omega)).2.1) ?_
            refine lv_istore (lv' := [(4, .int ((m_run f ia (-1) (n - 1 + 1)).1)), (3, .int r3), (0, .ref (E.1 92)), (1, .int (nI ia)), (2, .int (3 : Int32))]) hx hb dX12_hardest_116 hl (by decide) rfl (fun ls hl => ?_)
            refine lv_iload hx hb dX12_hardest_118 (lv_at hl 0 rfl) ?_
            refine lv_if_le (tgt := 125) hx hb dX12_hardest_120 (by decide) (fun c_120 => ?_) (fun c_120 => ?_)
            · skip
              have d_120 := Int32.not_lt.mpr c_120
              refine lv_iinc (v := (2 : Int32)) (lv' := [(2, .int (2 : Int32)), (4, .int ((m_run f ia (-1) (n - 1 + 1)).1)), (3, .int r3), (0, .ref (E.1 92)), (1, .int (nI ia))]) hx hb dX12_hardest_125 hl (k := 4) rfl (by decide) (by decide) rfl (fun ls hl => ?_)
              refine lv_goto (tgt := 16) hx hb dX12_hardest_128 (by decide) ?_
              refine lv_iload_n hx hb dX12_hardest_16 rfl (lv_at hl 0 rfl) ?_
              refine lv_if_lt (tgt := 131) hx hb dX12_hardest_17 (by decide) (fun h_ => absurd h_ (by decide)) (fun _ => ?_)
              refine lv_aload_n hx hb dX12_hardest_20 rfl (lv_at hl 3 rfl) ?_
              refine z_get C0 hP (C := RX12) (T := TX12) (N := 21) (ci := 10) (index := 9) (k := 92) (ref := "WetSuitPedalsShoesModel") (zk_lt (rfl : zk 92 = 10) (by decide)) (zd_10 E (rfl : zk 92 = 10) _) rfl (zmi inU_12) 0 (by decide) (zm flRX12_9) rfl (v := .ref (E.1 93)) (rfl) dX12_hardest_21 ?_
              refine lv_aload_n hx hb dX12_hardest_24 rfl (lv_at hl 3 rfl) ?_
              refine z_get C0 hP (C := RX12) (T := TX12) (N := 21) (ci := 10) (index := 13) (k := 92) (ref := "WetSuitPedalsShoesModel") (zk_lt (rfl : zk 92 = 10) (by decide)) (zd_10 E (rfl : zk 92 = 10) _) rfl (zmi inU_12) 1 (by decide) (zm flRX12_13) rfl (v := .ref (E.1 94)) (rfl) dX12_hardest_25 ?_
              refine z_Sv C0 hP hD hA hS (As := [.ref (E.1 93), .ref (E.1 94)]) (rest := []) (c_X12_lays l E _ 93 94 z_lit_Arr102_93 z_lit_Arr102_94 (by decide)) (va_cwS 2 hts (zgS zbw mlRX12_149 stX12_lays iniRX12 coX12_lays) rfl rfl rfl (by decide +kernel) ⟨Nat.le_of_ble_eq_true rfl, Nat.le_of_ble_eq_true rfl⟩) rfl hl.1 rfl (Nat.le_of_ble_eq_true rfl) dX12_hardest_28 ⟨Nat.zero_le _, Nat.zero_le _⟩ (fun G4 H locs hw4 hP hS => ?_)
              obtain ⟨hF4, hcp4⟩ := hw4
              refine lv_iconst (v := (0 : Int32)) hx hb dX12_hardest_31 (by decide) ?_
              refine lv_istore_n (lv' := [(3, .int (0 : Int32)), (2, .int (2 : Int32)), (4, .int ((m_run f ia (-1) (n - 1 + 1)).1)), (0, .ref (E.1 92)), (1, .int (nI ia))]) hx hb dX12_hardest_32 rfl hl (by decide) rfl (fun ls hl => ?_)
              exact ih_33 0 (G4 94) _ _ _ (by first | assumption | omega) (by intro j hj; rw [s_rd_n (fun q => by rw [c_51] at q; exact absurd q (by decide))]; exact hf j hj) hP hS (lv_sub hl [3, 4, 1, 0] rfl) (by omega)
            · skip
              have d_120 := Int32.not_le.mp c_120
              refine lv_iload_n hx hb dX12_hardest_123 rfl (lv_at hl 4 rfl) ?_
              subst hQ_
              exact z_iret C0 hP hS (v := (3 : Int32)) (by exact zQm_of (k := 0) (by simp [A_hardest, hz_ia, hy_ia, c_40, c_87, d_120]) (fun k hk => (hF3 k (by omega)).trans ((g1_n (by omega)).trans (hF2 k (by omega)))) ((hF3 _ (by decide)).trans ((g1_n (by decide)).trans (hF2 _ (by decide))))) dX12_hardest_124
          · skip
            refine lv_aload_n hx hb dX12_hardest_90 rfl (lv_at hl 1 rfl) ?_
            refine z_get C0 hP (C := RX12) (T := TX12) (N := 21) (ci := 10) (index := 9) (k := 92) (ref := "WetSuitPedalsShoesModel") (zk_lt (rfl : zk 92 = 10) (by decide)) (zd_10 E (rfl : zk 92 = 10) _) rfl (zmi inU_12) 0 (by decide) (zm flRX12_9) rfl (v := .ref (E.1 93)) (rfl) dX12_hardest_91 ?_
            refine lv_iload_n hx hb dX12_hardest_94 rfl (lv_at hl 2 rfl) ?_
            refine lv_iconst (v := (3 : Int32)) hx hb dX12_hardest_95 (by decide) ?_
            refine z_Si C0 hP hD hA hS (As := [.int (nI ia), .int (3 : Int32)]) (rest := [.ref (E.1 93)]) (c_X12_athleteAt l E _ ia 3) (va_cwS 2 hts (zgS zbw mlRX12_70 stX12_athleteAt iniRX12 coX12_athleteAt) rfl rfl rfl (by decide +kernel) ⟨Nat.le_of_ble_eq_true rfl, Nat.le_of_ble_eq_true rfl⟩) rfl hl.1 rfl (Nat.le_of_ble_eq_true rfl) dX12_hardest_96 ⟨Nat.zero_le _, Nat.zero_le _⟩ (fun r5 G5 H locs hw5 hP hS => ?_)
            obtain ⟨hr5, rfl⟩ := hw5
            subst hr5
            refine z_eqi (y := (nI (35 + 4 * ia))) (congrArg nI (by omega)) ?_
            refine z_iald C0 hP (k := 93) (i := 35 + 4 * ia) (v := (r (35 + 4 * ia))) (rfl : zk 93 = 11) (Nat.lt_of_lt_of_eq (show 35 + 4 * ia < 102 by omega) (rfl : zl 93 = 102).symm) rfl dX12_hardest_99 (congrFun ((hF3 _ (by decide)).trans ((g1_n (by decide)).trans ((hF2 _ (by decide)).trans (hM)))) _) ?_
            refine lv_goto (tgt := 116) hx hb dX12_hardest_100 (by decide) ?_
            refine lv_istore (lv' := [(4, .int (r (35 + 4 * ia))), (3, .int r3), (0, .ref (E.1 92)), (1, .int (nI ia)), (2, .int (3 : Int32))]) hx hb dX12_hardest_116 hl (by decide) rfl (fun ls hl => ?_)
            refine lv_iload hx hb dX12_hardest_118 (lv_at hl 0 rfl) ?_
            refine lv_if_le (tgt := 125) hx hb dX12_hardest_120 (by decide) (fun c_120 => ?_) (fun c_120 => ?_)
            · skip
              have d_120 := Int32.not_lt.mpr c_120
              refine lv_iinc (v := (2 : Int32)) (lv' := [(2, .int (2 : Int32)), (4, .int (r (35 + 4 * ia))), (3, .int r3), (0, .ref (E.1 92)), (1, .int (nI ia))]) hx hb dX12_hardest_125 hl (k := 4) rfl (by decide) (by decide) rfl (fun ls hl => ?_)
              refine lv_goto (tgt := 16) hx hb dX12_hardest_128 (by decide) ?_
              refine lv_iload_n hx hb dX12_hardest_16 rfl (lv_at hl 0 rfl) ?_
              refine lv_if_lt (tgt := 131) hx hb dX12_hardest_17 (by decide) (fun h_ => absurd h_ (by decide)) (fun _ => ?_)
              refine lv_aload_n hx hb dX12_hardest_20 rfl (lv_at hl 3 rfl) ?_
              refine z_get C0 hP (C := RX12) (T := TX12) (N := 21) (ci := 10) (index := 9) (k := 92) (ref := "WetSuitPedalsShoesModel") (zk_lt (rfl : zk 92 = 10) (by decide)) (zd_10 E (rfl : zk 92 = 10) _) rfl (zmi inU_12) 0 (by decide) (zm flRX12_9) rfl (v := .ref (E.1 93)) (rfl) dX12_hardest_21 ?_
              refine lv_aload_n hx hb dX12_hardest_24 rfl (lv_at hl 3 rfl) ?_
              refine z_get C0 hP (C := RX12) (T := TX12) (N := 21) (ci := 10) (index := 13) (k := 92) (ref := "WetSuitPedalsShoesModel") (zk_lt (rfl : zk 92 = 10) (by decide)) (zd_10 E (rfl : zk 92 = 10) _) rfl (zmi inU_12) 1 (by decide) (zm flRX12_13) rfl (v := .ref (E.1 94)) (rfl) dX12_hardest_25 ?_
              refine z_Sv C0 hP hD hA hS (As := [.ref (E.1 93), .ref (E.1 94)]) (rest := []) (c_X12_lays l E _ 93 94 z_lit_Arr102_93 z_lit_Arr102_94 (by decide)) (va_cwS 2 hts (zgS zbw mlRX12_149 stX12_lays iniRX12 coX12_lays) rfl rfl rfl (by decide +kernel) ⟨Nat.le_of_ble_eq_true rfl, Nat.le_of_ble_eq_true rfl⟩) rfl hl.1 rfl (Nat.le_of_ble_eq_true rfl) dX12_hardest_28 ⟨Nat.zero_le _, Nat.zero_le _⟩ (fun G6 H locs hw6 hP hS => ?_)
              obtain ⟨hF6, hcp6⟩ := hw6
              refine lv_iconst (v := (0 : Int32)) hx hb dX12_hardest_31 (by decide) ?_
              refine lv_istore_n (lv' := [(3, .int (0 : Int32)), (2, .int (2 : Int32)), (4, .int (r (35 + 4 * ia))), (0, .ref (E.1 92)), (1, .int (nI ia))]) hx hb dX12_hardest_32 rfl hl (by decide) rfl (fun ls hl => ?_)
              exact ih_33 0 (G6 94) _ _ _ (by first | assumption | omega) (by intro j hj; rw [s_rd_n (fun q => by rw [c_51] at q; exact absurd q (by decide))]; exact hf j hj) hP hS (lv_sub hl [3, 4, 1, 0] rfl) (by omega)
            · skip
              have d_120 := Int32.not_le.mp c_120
              refine lv_iload_n hx hb dX12_hardest_123 rfl (lv_at hl 4 rfl) ?_
              subst hQ_
              exact z_iret C0 hP hS (v := (3 : Int32)) (by exact zQm_of (k := 0) (by simp [A_hardest, hz_ia, hy_ia, c_40, c_87, d_120]) (fun k hk => (hF3 k (by omega)).trans ((g1_n (by omega)).trans (hF2 k (by omega)))) ((hF3 _ (by decide)).trans ((g1_n (by decide)).trans (hF2 _ (by decide))))) dX12_hardest_124
        · skip
          refine lv_aload_n hx hb dX12_hardest_43 rfl (lv_at hl 0 rfl) ?_
          refine z_get C0 hP (C := RX12) (T := TX12) (N := 21) (ci := 10) (index := 9) (k := 92) (ref := "WetSuitPedalsShoesModel") (zk_lt (rfl : zk 92 = 10) (by decide)) (zd_10 E (rfl : zk 92 = 10) _) rfl (zmi inU_12) 0 (by decide) (zm flRX12_9) rfl (v := .ref (E.1 93)) (rfl) dX12_hardest_44 ?_
          refine lv_iload_n hx hb dX12_hardest_47 rfl (lv_at hl 3 rfl) ?_
          refine z_Si C0 hP hD hA hS (As := [.ref (E.1 93), .int (nI i)]) (rest := []) (c_X12_isRide l E _ 93 i z_lit_Arr102_93 (by omega)) (va_cwS 2 hts (zgS zbw mlRX12_73 stX12_isRide iniRX12 coX12_isRide) rfl rfl rfl (by decide +kernel) ⟨Nat.le_of_ble_eq_true rfl, Nat.le_of_ble_eq_true rfl⟩) rfl hl.1 rfl (Nat.le_of_ble_eq_true rfl) dX12_hardest_48 ⟨Nat.zero_le _, Nat.zero_le _⟩ (fun r7 G7 H locs hw7 hP hS => ?_)
          obtain ⟨hr7, rfl⟩ := hw7
          have hr7 : s_isRide (r (2 + 3 * i)) = _ := (congrArg (fun z_ : Nat → Int32 => s_isRide (z_ (2 + 3 * i))) (show (g1 G2 94 f) 93 = r from (g1_n (by decide)).trans ((hF2 _ (by decide)).trans (hM)))).symm.trans hr7
          subst hr7
          refine lv_if_eq (tgt := 65) hx hb dX12_hardest_51 (by decide) (fun c_51 => ?_) (fun c_51 => ?_)
          · skip
            refine lv_iinc (v := (nI (i + 1))) (lv' := [(3, .int (nI (i + 1))), (0, .ref (E.1 92)), (1, .int (nI ia)), (2, .int (3 : Int32))]) hx hb dX12_hardest_65 hl (k := 3) rfl (z_inc (by decide)) (by decide) rfl (fun ls hl => ?_)
            refine lv_goto (tgt := 33) hx hb dX12_hardest_68 (by decide) ?_
            exact ih_33 (i + 1) f _ _ _ (by first | assumption | omega) (by intro j hj; rw [s_rd_n (fun q => by rw [c_51] at q; exact absurd q (by decide))]; exact hf j hj) hP hS (lv_sub hl [1, 2, 3, 0] rfl) (by omega)
          · skip
            refine lv_aload_n hx hb dX12_hardest_54 rfl (lv_at hl 0 rfl) ?_
            refine z_get C0 hP (C := RX12) (T := TX12) (N := 21) (ci := 10) (index := 13) (k := 92) (ref := "WetSuitPedalsShoesModel") (zk_lt (rfl : zk 92 = 10) (by decide)) (zd_10 E (rfl : zk 92 = 10) _) rfl (zmi inU_12) 1 (by decide) (zm flRX12_13) rfl (v := .ref (E.1 94)) (rfl) dX12_hardest_55 ?_
            refine lv_iload_n hx hb dX12_hardest_58 rfl (lv_at hl 1 rfl) ?_
            refine lv_iload_n hx hb dX12_hardest_59 rfl (lv_at hl 3 rfl) ?_
            refine z_Si C0 hP hD hA hS (As := [.int (nI ia), .int (nI i)]) (rest := [.ref (E.1 94)]) (c_X12_tried l E _ ia i) (va_cwS 2 hts (zgS zbw mlRX12_91 stX12_tried iniRX12 coX12_tried) rfl rfl rfl (by decide +kernel) ⟨Nat.le_of_ble_eq_true rfl, Nat.le_of_ble_eq_true rfl⟩) rfl hl.1 rfl (Nat.le_of_ble_eq_true rfl) dX12_hardest_60 ⟨Nat.zero_le _, Nat.zero_le _⟩ (fun r8 G8 H locs hw8 hP hS => ?_)
            obtain ⟨hr8, rfl⟩ := hw8
            subst hr8
            refine z_eqi (y := (nI (52 + 10 * ia + i))) (congrArg nI (by omega)) ?_
            refine lv_iload_n hx hb dX12_hardest_63 rfl (lv_at hl 2 rfl) ?_
            refine z_iast C0 hP hD hS (k := 94) (i := 52 + 10 * ia + i) (v := (3 : Int32)) (F := f) (g1_s _ _ _) (rfl : zk 94 = 11) (Nat.lt_of_lt_of_eq (show 52 + 10 * ia + i < 102 by omega) (rfl : zl 94 = 102).symm) rfl dX12_hardest_64 (fun H locs hP hS => ?_)
            have hP := zP_eq (g1_t _ _ _ _ : _ = (g1 G2 94 (upd f (52 + 10 * ia + i) (3 : Int32)))) hP
            refine lv_iinc (v := (nI (i + 1))) (lv' := [(3, .int (nI (i + 1))), (0, .ref (E.1 92)), (1, .int (nI ia)), (2, .int (3 : Int32))]) hx hb dX12_hardest_65 hl (k := 3) rfl (z_inc (by decide)) (by decide) rfl (fun ls hl => ?_)
            refine lv_goto (tgt := 33) hx hb dX12_hardest_68 (by decide) ?_
            exact ih_33 (i + 1) (upd f (52 + 10 * ia + i) (3 : Int32)) _ _ _ (by first | assumption | omega) (by intro j hj; rw [s_rd_y (s_ride_ne c_51)]; exact upd_c hf j hj) hP hS (lv_sub hl [1, 2, 3, 0] rfl) (by omega)
    exact cut_33 (_ + 1) 0 (G2 94) _ _ _ (by first | assumption | omega) (by exact (fun j hj => (hcp2 j hj).trans (congrFun (hM) j))) (zP_eq ((g1_e G2 94).symm) hP) hS (lv_sub hl [2, 3, 1, 0] rfl) (Nat.lt_succ_self _)
  · skip
    have hz_ia := zin_f (by omega) hno1
    refine lv_if_ne (tgt := 14) hx hb dX12_hardest_5 (by decide) (fun h_ => absurd (by decide) h_) (fun _ => ?_)
    refine lv_aload_n hx hb dX12_hardest_8 rfl (lv_at hl 0 rfl) ?_
    refine lv_iconst (v := (-1 : Int32)) hx hb dX12_hardest_9 (by decide) ?_
    refine z_Vi C0 hP hD hA hS (As := [.int (-1 : Int32)]) (rest := []) (k := 92) (c_X12_no l E _ (-1 : Int32) 1 (by decide) (by decide)) (cwV 1 hts (zgV zbw mlRX12_56 imX12_no seX12_no iniRX12 coX12_no) rfl rfl rfl (by decide +kernel) ⟨Nat.le_of_ble_eq_true rfl, Nat.le_of_ble_eq_true rfl⟩) (zk_lt (rfl : zk 92 = 10) (by decide)) (zd_10 E (rfl : zk 92 = 10) _) rfl rfl rfl hl.1 rfl (Nat.le_of_ble_eq_true rfl) dX12_hardest_10 ⟨Nat.zero_le _, Nat.zero_le _⟩ (fun r9 G9 H locs hw9 hP hS => ?_)
    obtain ⟨rfl, rfl⟩ := hw9
    subst hQ_
    exact z_iret C0 hP hS (v := (-1 : Int32)) (by exact zQm_of (k := 1) (by simp [A_hardest, hz_ia]) (fun k hk => g1_n (by omega)) (g1_s _ _ _)) dX12_hardest_13
