/-! laid by wip/whole/vcg.py -/
theorem flRX11_54 : Cond.fieldLink RX11 54 "WetSuitPedalsShoes" "planner" "LWetSuitPedalsShoes$Planner;" ∈ zU := zU_m 280 (by decide +kernel) rfl
theorem mlRX11_178 : Cond.methodLink RX11 178 yX7_look ∈ zU := zU_m 544 (by decide +kernel) rfl
theorem coX7_look : Cond.code yX7_look cX7_look 4 none ∈ zU := zU_m 547 (by decide +kernel) rfl
theorem imX7_look : Cond.instanceMethod yX7_look ∈ zU := zU_m 545 (by decide +kernel) rfl
theorem seX7_look : Cond.selects RX7 yX7_look yX7_look ∈ zU := zU_m 546 (by decide +kernel) rfl
theorem mlRX11_181 : Cond.methodLink RX11 181 yX7_leastFinish ∈ zU := zU_m 549 (by decide +kernel) rfl
theorem mlRX11_184 : Cond.methodLink RX11 184 yX7_bestTries ∈ zU := zU_m 563 (by decide +kernel) rfl
theorem coX7_bestTries : Cond.code yX7_bestTries cX7_bestTries 4 (some .int) ∈ zU := zU_m 566 (by decide +kernel) rfl
theorem imX7_bestTries : Cond.instanceMethod yX7_bestTries ∈ zU := zU_m 564 (by decide +kernel) rfl
theorem seX7_bestTries : Cond.selects RX7 yX7_bestTries yX7_bestTries ∈ zU := zU_m 565 (by decide +kernel) rfl
set_option maxHeartbeats 4000000 in
set_option maxRecDepth 100000 in
theorem c_X11_bestPlan (l : Launch) (E : zE) (G : zG) (r : Nat → Int32) (n na : Nat) (athlete sect : Int32) (hR : zFA G 1 r n na) (hn10 : n ≤ 10) (hna : na ≤ 5) (hp : zPl G) (hkd : zKd r n) (hV : zVr r n na) : zMi l yX11_bestPlan wsX11_bestPlan ({ frames := 6, cells := 0, slots := 0, locals := 138 } : Room) E G [.ref (E.1 0), .int athlete, .int sect] (fun r1 G1 => zQc (A_plan r n na athlete sect) G r1 G1) := by
  refine zOf (cc := cX11_bestPlan) (nL := 3) (ret := (some .int)) RX11 (by decide) rfl rfl (Nat.le_of_ble_eq_true rfl) ?_
  intro p_ e_ s_ m_ a_ b_ me_ c_ ls C0 hP hS hl
  have hx := C0.1
  have hb := C0.2.1
  have hts := C0.2.2.2.2.1
  have hD : zD E (zA E s_.heap.size) := C0.2.2.2.2.2.2.2.2
  have hA : ∀ q : Nat, s_.heap.size ≤ q → zA E s_.heap.size q := fun q h => Or.inr h
  refine z_gen (fun Q_ hQ_ => ?_)
  have hl : lv_has ls 3 [(0, .ref (E.1 0)), (1, .int athlete), (2, .int sect)] := hl
  refine lv_aload_n hx hb dX11_bestPlan_0 rfl (lv_at hl 0 rfl) ?_
  refine z_get C0 hP (C := RX11) (T := TX11) (N := 11) (ci := 9) (index := 10) (k := 0) (ref := "WetSuitPedalsShoes") (zk_lt (rfl : zk 0 = 9) (by decide)) (zd_9 E (rfl : zk 0 = 9) _) rfl (zmi inU_11) 0 (by decide) (zm flRX11_10) rfl (v := .ref (E.1 1)) (rfl) dX11_bestPlan_1 ?_
  refine lv_iload_n hx hb dX11_bestPlan_4 rfl (lv_at hl 1 rfl) ?_
  refine z_Vi C0 hP hD hA hS (As := [.int athlete]) (rest := []) (k := 1) (c_X3_has l E _ 1 na athlete z_lit_Fie_1 (hR.2.1) (by omega)) (cwV 1 hts (zgV zbw mlRX11_117 imX3_has seX3_has iniRX3 coX3_has) rfl rfl rfl (by decide +kernel) ⟨Nat.le_of_ble_eq_true rfl, Nat.le_of_ble_eq_true rfl⟩) (zk_lt (rfl : zk 1 = 3) (by decide)) (zd_3 E (rfl : zk 1 = 3) _) rfl rfl rfl hl.1 rfl (Nat.le_of_ble_eq_true rfl) dX11_bestPlan_5 ⟨Nat.zero_le _, Nat.zero_le _⟩ (fun r1 G1 H locs hw1 hP hS => ?_)
  rcases hw1 with ⟨rfl, rfl, ia, hia, rfl⟩ | ⟨rfl, rfl, hno1⟩
  · skip
    have hz_ia := zin_t hia (by omega)
    have hy_ia : zix (nI ia) = ia := zix_n (by omega)
    refine lv_if_eq (tgt := 30) hx hb dX11_bestPlan_8 (by decide) (fun h_ => absurd h_ (by decide)) (fun _ => ?_)
    refine lv_iload_n hx hb dX11_bestPlan_11 rfl (lv_at hl 2 rfl) ?_
    refine lv_iconst (v := (-1 : Int32)) hx hb dX11_bestPlan_12 (by decide) ?_
    refine lv_icmp_eq (tgt := 36) hx hb dX11_bestPlan_13 (by decide) (fun c_13 => ?_) (fun c_13 => ?_)
    · skip
      have hs9 := c_13
      subst hs9
      refine lv_aload_n hx hb dX11_bestPlan_36 rfl (lv_at hl 0 rfl) ?_
      refine z_get C0 hP (C := RX11) (T := TX11) (N := 11) (ci := 9) (index := 54) (k := 0) (ref := "WetSuitPedalsShoes") (zk_lt (rfl : zk 0 = 9) (by decide)) (zd_9 E (rfl : zk 0 = 9) _) rfl (zmi inU_11) 8 (by decide) (zm flRX11_54) rfl (v := .ref (E.1 70)) (rfl) dX11_bestPlan_37 ?_
      refine lv_aload_n hx hb dX11_bestPlan_40 rfl (lv_at hl 0 rfl) ?_
      refine z_get C0 hP (C := RX11) (T := TX11) (N := 11) (ci := 9) (index := 10) (k := 0) (ref := "WetSuitPedalsShoes") (zk_lt (rfl : zk 0 = 9) (by decide)) (zd_9 E (rfl : zk 0 = 9) _) rfl (zmi inU_11) 0 (by decide) (zm flRX11_10) rfl (v := .ref (E.1 1)) (rfl) dX11_bestPlan_41 ?_
      refine z_get C0 hP (C := RX3) (T := TX3) (N := 3) (ci := 3) (index := 93) (k := 1) (ref := "WetSuitPedalsShoes$Field") (zk_lt (rfl : zk 1 = 3) (by decide)) (zd_3 E (rfl : zk 1 = 3) _) rfl (zmi inU_3) 0 (by decide) (zm flRX11_93) rfl (v := .ref (E.1 2)) (rfl) dX11_bestPlan_44 ?_
      refine lv_aload_n hx hb dX11_bestPlan_47 rfl (lv_at hl 0 rfl) ?_
      refine z_get C0 hP (C := RX11) (T := TX11) (N := 11) (ci := 9) (index := 10) (k := 0) (ref := "WetSuitPedalsShoes") (zk_lt (rfl : zk 0 = 9) (by decide)) (zd_9 E (rfl : zk 0 = 9) _) rfl (zmi inU_11) 0 (by decide) (zm flRX11_10) rfl (v := .ref (E.1 1)) (rfl) dX11_bestPlan_48 ?_
      refine z_get C0 hP (C := RX3) (T := TX3) (N := 3) (ci := 3) (index := 118) (k := 1) (ref := "WetSuitPedalsShoes$Field") (zk_lt (rfl : zk 1 = 3) (by decide)) (zd_3 E (rfl : zk 1 = 3) _) rfl (zmi inU_3) 1 (by decide) (zm flRX11_118) rfl (v := .ref (E.1 6)) (rfl) dX11_bestPlan_51 ?_
      refine lv_iload_n hx hb dX11_bestPlan_54 rfl (lv_at hl 1 rfl) ?_
      refine z_aald C0 hP (k := 6) (i := ia) (rfl : zk 6 = 12) (by omega) rfl dX11_bestPlan_55 (fun at_2 hat_2 => ?_)
      have kat_2 : zIs at_2 tAth := hat_2 ▸ zIs_ath z_lit_Fie_1 (by omega)
      refine z_Vv C0 hP hD hA hS (As := [.ref (E.1 2), .ref (E.1 at_2)]) (rest := []) (k := 70) (c_X7_look l E _ at_2 n kat_2 (by omega) (hR.1) hn10) (cwV 2 hts (zgV zbw mlRX11_178 imX7_look seX7_look iniRX7 coX7_look) rfl rfl rfl (by decide +kernel) ⟨Nat.le_of_ble_eq_true rfl, Nat.le_of_ble_eq_true rfl⟩) (zk_lt (rfl : zk 70 = 5) (by decide)) (zd_5 E (rfl : zk 70 = 5) _) rfl rfl rfl hl.1 rfl (Nat.le_of_ble_eq_true rfl) dX11_bestPlan_56 ⟨Nat.zero_le _, Nat.zero_le _⟩ (fun G3 H locs hw3 hP hS => ?_)
      obtain ⟨hF3, hm3, h13, h63, h73, hrow3⟩ := hw3
      have hpn3 := zPn_look hR hat_2 hia hn10 hV hm3 h13 hrow3
      refine lv_iload_n hx hb dX11_bestPlan_59 rfl (lv_at hl 2 rfl) ?_
      refine lv_iconst (v := (-1 : Int32)) hx hb dX11_bestPlan_60 (by decide) ?_
      refine lv_icmp_ne (tgt := 74) hx hb dX11_bestPlan_61 (by decide) (fun h_ => absurd (by decide) h_) (fun _ => ?_)
      refine lv_aload_n hx hb dX11_bestPlan_64 rfl (lv_at hl 0 rfl) ?_
      refine z_get C0 hP (C := RX11) (T := TX11) (N := 11) (ci := 9) (index := 54) (k := 0) (ref := "WetSuitPedalsShoes") (zk_lt (rfl : zk 0 = 9) (by decide)) (zd_9 E (rfl : zk 0 = 9) _) rfl (zmi inU_11) 8 (by decide) (zm flRX11_54) rfl (v := .ref (E.1 70)) (rfl) dX11_bestPlan_65 ?_
      refine z_Vi C0 hP hD hA hS (As := []) (rest := []) (k := 70) (c_X7_leastFinish l E _ r ia n hn10 hV.1 hpn3 (hV.2 ia hia)) (cwV 0 hts (zgV zbw mlRX11_181 imX7_leastFinish seX7_leastFinish iniRX7 coX7_leastFinish) rfl rfl rfl (by decide +kernel) ⟨Nat.le_of_ble_eq_true rfl, Nat.le_of_ble_eq_true rfl⟩) (zk_lt (rfl : zk 70 = 5) (by decide)) (zd_5 E (rfl : zk 70 = 5) _) rfl rfl rfl hl.1 rfl (Nat.le_of_ble_eq_true rfl) dX11_bestPlan_68 ⟨Nat.zero_le _, Nat.zero_le _⟩ (fun r4 G4 H locs hw4 hP hS => ?_)
      obtain ⟨hF4, hto4, hr4⟩ := hw4
      subst hr4
      refine lv_goto (tgt := 82) hx hb dX11_bestPlan_71 (by decide) ?_
      subst hQ_
      exact z_iret C0 hP hS (v := (p_to r ia n n (q_g r ia))) (by exact zQc_of (k := 0) (by simp [A_plan, hz_ia, hy_ia, c_13]) (fun k hk => (hF4 k (by omega)).trans (hF3 k (by omega))) ((hF4 _ (by decide)).trans (hF3 _ (by decide))) (zPl_67 ((congrFun ((hF4 70 (by omega))) 6).trans h63) ((congrFun ((hF4 70 (by omega))) 7).trans h73) hp)) dX11_bestPlan_82
    · skip
      refine lv_aload_n hx hb dX11_bestPlan_16 rfl (lv_at hl 0 rfl) ?_
      refine z_get C0 hP (C := RX11) (T := TX11) (N := 11) (ci := 9) (index := 10) (k := 0) (ref := "WetSuitPedalsShoes") (zk_lt (rfl : zk 0 = 9) (by decide)) (zd_9 E (rfl : zk 0 = 9) _) rfl (zmi inU_11) 0 (by decide) (zm flRX11_10) rfl (v := .ref (E.1 1)) (rfl) dX11_bestPlan_17 ?_
      refine z_get C0 hP (C := RX3) (T := TX3) (N := 3) (ci := 3) (index := 93) (k := 1) (ref := "WetSuitPedalsShoes$Field") (zk_lt (rfl : zk 1 = 3) (by decide)) (zd_3 E (rfl : zk 1 = 3) _) rfl (zmi inU_3) 0 (by decide) (zm flRX11_93) rfl (v := .ref (E.1 2)) (rfl) dX11_bestPlan_20 ?_
      refine lv_iload_n hx hb dX11_bestPlan_23 rfl (lv_at hl 2 rfl) ?_
      refine z_Vi C0 hP hD hA hS (As := [.int sect]) (rest := []) (k := 2) (c_X1_has l E _ 2 n sect z_lit_Cou_2 (hR.1) (by omega)) (cwV 1 hts (zgV zbw mlRX11_97 imX1_has seX1_has iniRX1 coX1_has) rfl rfl rfl (by decide +kernel) ⟨Nat.le_of_ble_eq_true rfl, Nat.le_of_ble_eq_true rfl⟩) (zk_lt (rfl : zk 2 = 1) (by decide)) (zd_1 E (rfl : zk 2 = 1) _) rfl rfl rfl hl.1 rfl (Nat.le_of_ble_eq_true rfl) dX11_bestPlan_24 ⟨Nat.zero_le _, Nat.zero_le _⟩ (fun r5 G5 H locs hw5 hP hS => ?_)
      rcases hw5 with ⟨rfl, rfl, is, his, rfl⟩ | ⟨rfl, rfl, hno5⟩
      · skip
        have hz_is := zin_t his (by omega)
        have hy_is : zix (nI is) = is := zix_n (by omega)
        refine lv_if_ne (tgt := 36) hx hb dX11_bestPlan_27 (by decide) (fun _ => ?_) (fun h_ => absurd h_ (by decide))
        refine lv_aload_n hx hb dX11_bestPlan_36 rfl (lv_at hl 0 rfl) ?_
        refine z_get C0 hP (C := RX11) (T := TX11) (N := 11) (ci := 9) (index := 54) (k := 0) (ref := "WetSuitPedalsShoes") (zk_lt (rfl : zk 0 = 9) (by decide)) (zd_9 E (rfl : zk 0 = 9) _) rfl (zmi inU_11) 8 (by decide) (zm flRX11_54) rfl (v := .ref (E.1 70)) (rfl) dX11_bestPlan_37 ?_
        refine lv_aload_n hx hb dX11_bestPlan_40 rfl (lv_at hl 0 rfl) ?_
        refine z_get C0 hP (C := RX11) (T := TX11) (N := 11) (ci := 9) (index := 10) (k := 0) (ref := "WetSuitPedalsShoes") (zk_lt (rfl : zk 0 = 9) (by decide)) (zd_9 E (rfl : zk 0 = 9) _) rfl (zmi inU_11) 0 (by decide) (zm flRX11_10) rfl (v := .ref (E.1 1)) (rfl) dX11_bestPlan_41 ?_
        refine z_get C0 hP (C := RX3) (T := TX3) (N := 3) (ci := 3) (index := 93) (k := 1) (ref := "WetSuitPedalsShoes$Field") (zk_lt (rfl : zk 1 = 3) (by decide)) (zd_3 E (rfl : zk 1 = 3) _) rfl (zmi inU_3) 0 (by decide) (zm flRX11_93) rfl (v := .ref (E.1 2)) (rfl) dX11_bestPlan_44 ?_
        refine lv_aload_n hx hb dX11_bestPlan_47 rfl (lv_at hl 0 rfl) ?_
        refine z_get C0 hP (C := RX11) (T := TX11) (N := 11) (ci := 9) (index := 10) (k := 0) (ref := "WetSuitPedalsShoes") (zk_lt (rfl : zk 0 = 9) (by decide)) (zd_9 E (rfl : zk 0 = 9) _) rfl (zmi inU_11) 0 (by decide) (zm flRX11_10) rfl (v := .ref (E.1 1)) (rfl) dX11_bestPlan_48 ?_
        refine z_get C0 hP (C := RX3) (T := TX3) (N := 3) (ci := 3) (index := 118) (k := 1) (ref := "WetSuitPedalsShoes$Field") (zk_lt (rfl : zk 1 = 3) (by decide)) (zd_3 E (rfl : zk 1 = 3) _) rfl (zmi inU_3) 1 (by decide) (zm flRX11_118) rfl (v := .ref (E.1 6)) (rfl) dX11_bestPlan_51 ?_
        refine lv_iload_n hx hb dX11_bestPlan_54 rfl (lv_at hl 1 rfl) ?_
        refine z_aald C0 hP (k := 6) (i := ia) (rfl : zk 6 = 12) (by omega) rfl dX11_bestPlan_55 (fun at_6 hat_6 => ?_)
        have kat_6 : zIs at_6 tAth := hat_6 ▸ zIs_ath z_lit_Fie_1 (by omega)
        refine z_Vv C0 hP hD hA hS (As := [.ref (E.1 2), .ref (E.1 at_6)]) (rest := []) (k := 70) (c_X7_look l E _ at_6 n kat_6 (by omega) (hR.1) hn10) (cwV 2 hts (zgV zbw mlRX11_178 imX7_look seX7_look iniRX7 coX7_look) rfl rfl rfl (by decide +kernel) ⟨Nat.le_of_ble_eq_true rfl, Nat.le_of_ble_eq_true rfl⟩) (zk_lt (rfl : zk 70 = 5) (by decide)) (zd_5 E (rfl : zk 70 = 5) _) rfl rfl rfl hl.1 rfl (Nat.le_of_ble_eq_true rfl) dX11_bestPlan_56 ⟨Nat.zero_le _, Nat.zero_le _⟩ (fun G7 H locs hw7 hP hS => ?_)
        obtain ⟨hF7, hm7, h17, h67, h77, hrow7⟩ := hw7
        have hpn7 := zPn_look hR hat_6 hia hn10 hV hm7 h17 hrow7
        refine lv_iload_n hx hb dX11_bestPlan_59 rfl (lv_at hl 2 rfl) ?_
        refine lv_iconst (v := (-1 : Int32)) hx hb dX11_bestPlan_60 (by decide) ?_
        refine lv_icmp_ne (tgt := 74) hx hb dX11_bestPlan_61 (by decide) (fun c_61 => ?_) (fun c_61 => ?_)
        · skip
          refine lv_aload_n hx hb dX11_bestPlan_74 rfl (lv_at hl 0 rfl) ?_
          refine z_get C0 hP (C := RX11) (T := TX11) (N := 11) (ci := 9) (index := 54) (k := 0) (ref := "WetSuitPedalsShoes") (zk_lt (rfl : zk 0 = 9) (by decide)) (zd_9 E (rfl : zk 0 = 9) _) rfl (zmi inU_11) 8 (by decide) (zm flRX11_54) rfl (v := .ref (E.1 70)) (rfl) dX11_bestPlan_75 ?_
          refine lv_iload_n hx hb dX11_bestPlan_78 rfl (lv_at hl 2 rfl) ?_
          refine z_Vi C0 hP hD hA hS (As := [.int (nI is)]) (rest := []) (k := 70) (c_X7_bestTries l E _ r ia n is hn10 hV.1 hpn7 (hV.2 ia hia) his) (cwV 1 hts (zgV zbw mlRX11_184 imX7_bestTries seX7_bestTries iniRX7 coX7_bestTries) rfl rfl rfl (by decide +kernel) ⟨Nat.le_of_ble_eq_true rfl, Nat.le_of_ble_eq_true rfl⟩) (zk_lt (rfl : zk 70 = 5) (by decide)) (zd_5 E (rfl : zk 70 = 5) _) rfl rfl rfl hl.1 rfl (Nat.le_of_ble_eq_true rfl) dX11_bestPlan_79 ⟨Nat.zero_le _, Nat.zero_le _⟩ (fun r8 G8 H locs hw8 hP hS => ?_)
          obtain ⟨hF8, hr8⟩ := hw8
          subst hr8
          subst hQ_
          exact z_iret C0 hP hS (v := (nI (p_bt r ia n is))) (by exact zQc_of (k := 0) (by simp [A_plan, hz_ia, hy_ia, c_13, hz_is, hy_is, c_61]) (fun k hk => (hF8 k (by omega)).trans (hF7 k (by omega))) ((hF8 _ (by decide)).trans (hF7 _ (by decide))) (zPl_67 ((congrFun ((hF8 70 (by omega))) 6).trans h67) ((congrFun ((hF8 70 (by omega))) 7).trans h77) hp)) dX11_bestPlan_82
        · exact absurd c_61 (fun q => c_13 q)
      · skip
        have hz_is := zin_f (by omega) hno5
        refine lv_if_ne (tgt := 36) hx hb dX11_bestPlan_27 (by decide) (fun h_ => absurd (by decide) h_) (fun _ => ?_)
        refine lv_aload_n hx hb dX11_bestPlan_30 rfl (lv_at hl 0 rfl) ?_
        refine lv_iconst (v := (-1 : Int32)) hx hb dX11_bestPlan_31 (by decide) ?_
        refine z_Vi C0 hP hD hA hS (As := [.int (-1 : Int32)]) (rest := []) (k := 0) (c_X11_refuse l E _ (-1 : Int32) 1 (by decide) (by decide) (by decide)) (cwV 1 hts (zgV zbw mlRX11_72 imX11_refuse seX11_refuse iniRX11 coX11_refuse) rfl rfl rfl (by decide +kernel) ⟨Nat.le_of_ble_eq_true rfl, Nat.le_of_ble_eq_true rfl⟩) (zk_lt (rfl : zk 0 = 9) (by decide)) (zd_9 E (rfl : zk 0 = 9) _) rfl rfl rfl hl.1 rfl (Nat.le_of_ble_eq_true rfl) dX11_bestPlan_32 ⟨Nat.zero_le _, Nat.zero_le _⟩ (fun r9 G9 H locs hw9 hP hS => ?_)
        obtain ⟨rfl, rfl⟩ := hw9
        subst hQ_
        exact z_iret C0 hP hS (v := (-1 : Int32)) (by exact zQc_of (k := 1) (by simp [A_plan, hz_ia, hy_ia, c_13, hz_is]) (fun k hk => g1_n (by omega)) (g1_s _ _ _) (z_plk (g1_n (by decide)) hp)) dX11_bestPlan_35
  · skip
    have hz_ia := zin_f (by omega) hno1
    refine lv_if_eq (tgt := 30) hx hb dX11_bestPlan_8 (by decide) (fun _ => ?_) (fun h_ => absurd (by decide) h_)
    refine lv_aload_n hx hb dX11_bestPlan_30 rfl (lv_at hl 0 rfl) ?_
    refine lv_iconst (v := (-1 : Int32)) hx hb dX11_bestPlan_31 (by decide) ?_
    refine z_Vi C0 hP hD hA hS (As := [.int (-1 : Int32)]) (rest := []) (k := 0) (c_X11_refuse l E _ (-1 : Int32) 1 (by decide) (by decide) (by decide)) (cwV 1 hts (zgV zbw mlRX11_72 imX11_refuse seX11_refuse iniRX11 coX11_refuse) rfl rfl rfl (by decide +kernel) ⟨Nat.le_of_ble_eq_true rfl, Nat.le_of_ble_eq_true rfl⟩) (zk_lt (rfl : zk 0 = 9) (by decide)) (zd_9 E (rfl : zk 0 = 9) _) rfl rfl rfl hl.1 rfl (Nat.le_of_ble_eq_true rfl) dX11_bestPlan_32 ⟨Nat.zero_le _, Nat.zero_le _⟩ (fun r10 G10 H locs hw10 hP hS => ?_)
    obtain ⟨rfl, rfl⟩ := hw10
    subst hQ_
    exact z_iret C0 hP hS (v := (-1 : Int32)) (by exact zQc_of (k := 1) (by simp [A_plan, hz_ia]) (fun k hk => g1_n (by omega)) (g1_s _ _ _) (z_plk (g1_n (by decide)) hp)) dX11_bestPlan_35
