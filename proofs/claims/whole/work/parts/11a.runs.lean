/-! laid by wip/whole/vcg.py -/
theorem flRX11_44 : Cond.fieldLink RX11 44 "WetSuitPedalsShoes" "trial" "LWetSuitPedalsShoes$Trial;" ∈ zU := zU_m 278 (by decide +kernel) rfl
theorem mlRX11_164 : Cond.methodLink RX11 164 yX10_load ∈ zU := zU_m 459 (by decide +kernel) rfl
theorem coX10_load : Cond.code yX10_load cX10_load 3 none ∈ zU := zU_m 462 (by decide +kernel) rfl
theorem imX10_load : Cond.instanceMethod yX10_load ∈ zU := zU_m 460 (by decide +kernel) rfl
theorem seX10_load : Cond.selects RX10 yX10_load yX10_load ∈ zU := zU_m 461 (by decide +kernel) rfl
theorem mlRX11_168 : Cond.methodLink RX11 168 yX10_run ∈ zU := zU_m 475 (by decide +kernel) rfl
theorem coX10_run : Cond.code yX10_run cX10_run 5 (some .int) ∈ zU := zU_m 478 (by decide +kernel) rfl
theorem imX10_run : Cond.instanceMethod yX10_run ∈ zU := zU_m 476 (by decide +kernel) rfl
theorem seX10_run : Cond.selects RX10 yX10_run yX10_run ∈ zU := zU_m 477 (by decide +kernel) rfl
set_option maxHeartbeats 4000000 in
set_option maxRecDepth 100000 in
theorem c_X11_runPlan (l : Launch) (E : zE) (G : zG) (r : Nat → Int32) (n na : Nat) (a : Nat) (hR : zFA G 1 r n na) (hkd : zKd r n) (hn10 : n ≤ 10) (hna : na ≤ 5) (ha : a < na) : zMi l yX11_runPlan wsX11_runPlan ({ frames := 4, cells := 0, slots := 0, locals := 90 } : Room) E G [.ref (E.1 0), .int (nI a)] (fun r1 G1 => (m_run r a (-1) n).2 = r1 ∧ (∀ k, (k < 48 ∨ 58 < k) → G1 k = G k) ∧ zTA G1 48 r a n ∧ G1 48 2 = -9 ∧ zT3 G1 48 r a (-1) n) := by
  refine zOf (cc := cX11_runPlan) (nL := 2) (ret := (some .int)) RX11 (by decide) rfl rfl (Nat.le_of_ble_eq_true rfl) ?_
  intro p_ e_ s_ m_ a_ b_ me_ c_ ls C0 hP hS hl
  have hx := C0.1
  have hb := C0.2.1
  have hts := C0.2.2.2.2.1
  have hD : zD E (zA E s_.heap.size) := C0.2.2.2.2.2.2.2.2
  have hA : ∀ q : Nat, s_.heap.size ≤ q → zA E s_.heap.size q := fun q h => Or.inr h
  refine z_gen (fun Q_ hQ_ => ?_)
  have hl : lv_has ls 2 [(0, .ref (E.1 0)), (1, .int (nI a))] := hl
  refine lv_aload_n hx hb dX11_runPlan_0 rfl (lv_at hl 0 rfl) ?_
  refine z_get C0 hP (C := RX11) (T := TX11) (N := 11) (ci := 9) (index := 44) (k := 0) (ref := "WetSuitPedalsShoes") (zk_lt (rfl : zk 0 = 9) (by decide)) (zd_9 E (rfl : zk 0 = 9) _) rfl (zmi inU_11) 6 (by decide) (zm flRX11_44) rfl (v := .ref (E.1 48)) (rfl) dX11_runPlan_1 ?_
  refine lv_aload_n hx hb dX11_runPlan_4 rfl (lv_at hl 0 rfl) ?_
  refine z_get C0 hP (C := RX11) (T := TX11) (N := 11) (ci := 9) (index := 10) (k := 0) (ref := "WetSuitPedalsShoes") (zk_lt (rfl : zk 0 = 9) (by decide)) (zd_9 E (rfl : zk 0 = 9) _) rfl (zmi inU_11) 0 (by decide) (zm flRX11_10) rfl (v := .ref (E.1 1)) (rfl) dX11_runPlan_5 ?_
  refine z_get C0 hP (C := RX3) (T := TX3) (N := 3) (ci := 3) (index := 93) (k := 1) (ref := "WetSuitPedalsShoes$Field") (zk_lt (rfl : zk 1 = 3) (by decide)) (zd_3 E (rfl : zk 1 = 3) _) rfl (zmi inU_3) 0 (by decide) (zm flRX11_93) rfl (v := .ref (E.1 2)) (rfl) dX11_runPlan_8 ?_
  refine lv_aload_n hx hb dX11_runPlan_11 rfl (lv_at hl 0 rfl) ?_
  refine z_get C0 hP (C := RX11) (T := TX11) (N := 11) (ci := 9) (index := 10) (k := 0) (ref := "WetSuitPedalsShoes") (zk_lt (rfl : zk 0 = 9) (by decide)) (zd_9 E (rfl : zk 0 = 9) _) rfl (zmi inU_11) 0 (by decide) (zm flRX11_10) rfl (v := .ref (E.1 1)) (rfl) dX11_runPlan_12 ?_
  refine z_get C0 hP (C := RX3) (T := TX3) (N := 3) (ci := 3) (index := 118) (k := 1) (ref := "WetSuitPedalsShoes$Field") (zk_lt (rfl : zk 1 = 3) (by decide)) (zd_3 E (rfl : zk 1 = 3) _) rfl (zmi inU_3) 1 (by decide) (zm flRX11_118) rfl (v := .ref (E.1 6)) (rfl) dX11_runPlan_15 ?_
  refine lv_iload_n hx hb dX11_runPlan_18 rfl (lv_at hl 1 rfl) ?_
  refine z_aald C0 hP (k := 6) (i := a) (rfl : zk 6 = 12) (by omega) rfl dX11_runPlan_19 (fun at_1 hat_1 => ?_)
  have kat_1 : zIs at_1 tAth := hat_1 ▸ zIs_ath z_lit_Fie_1 (by omega)
  refine z_Vv C0 hP hD hA hS (As := [.ref (E.1 2), .ref (E.1 at_1)]) (rest := []) (k := 48) (c_X10_load l E _ 48 2 at_1 z_lit_Tri_48 z_lit_Cou_2 kat_1 (by omega) (by omega)) (cwV 2 hts (zgV zbw mlRX11_164 imX10_load seX10_load iniRX10 coX10_load) rfl rfl rfl (by decide +kernel) ⟨Nat.le_of_ble_eq_true rfl, Nat.le_of_ble_eq_true rfl⟩) (zk_lt (rfl : zk 48 = 8) (by decide)) (zd_8 E (rfl : zk 48 = 8) _) rfl rfl rfl hl.1 rfl (Nat.le_of_ble_eq_true rfl) dX11_runPlan_20 ⟨Nat.zero_le _, Nat.zero_le _⟩ (fun G2 H locs hw2 hP hS => ?_)
  obtain ⟨hF2, hmn2, hkf2, hab2, htr2, hdr2⟩ := hw2
  refine lv_aload_n hx hb dX11_runPlan_23 rfl (lv_at hl 0 rfl) ?_
  refine z_get C0 hP (C := RX11) (T := TX11) (N := 11) (ci := 9) (index := 44) (k := 0) (ref := "WetSuitPedalsShoes") (zk_lt (rfl : zk 0 = 9) (by decide)) (zd_9 E (rfl : zk 0 = 9) _) rfl (zmi inU_11) 6 (by decide) (zm flRX11_44) rfl (v := .ref (E.1 48)) (rfl) dX11_runPlan_24 ?_
  refine z_Vi C0 hP hD hA hS (As := []) (rest := []) (k := 48) (c_X10_run l E _ 48 n z_lit_Tri_48 (hmn2.trans (hR.1)) (by omega)) (cwV 0 hts (zgV zbw mlRX11_168 imX10_run seX10_run iniRX10 coX10_run) rfl rfl rfl (by decide +kernel) ⟨Nat.le_of_ble_eq_true rfl, Nat.le_of_ble_eq_true rfl⟩) (zk_lt (rfl : zk 48 = 8) (by decide)) (zd_8 E (rfl : zk 48 = 8) _) rfl rfl rfl hl.1 rfl (Nat.le_of_ble_eq_true rfl) dX11_runPlan_27 ⟨Nat.zero_le _, Nat.zero_le _⟩ (fun r3 G3 H locs hw3 hP hS => ?_)
  obtain ⟨hr3, hF3, hrow3⟩ := hw3
  subst hQ_
  exact z_iret C0 hP hS (v := r3) (by have hTA := zTA_load hR hat_1 ha hmn2 hkf2 hab2 htr2; have h9 := zTA_ran9 hTA hkd hn10 hr3 hrow3 hdr2; exact ⟨h9.1, (fun k hk => (hF3 k (by omega)).trans (hF2 k (by omega))), zTA_fr hTA hF3, (hF3 48 (by omega) ▸ hdr2 : G3 48 2 = -9), h9.2⟩) dX11_runPlan_30
theorem flRX11_291 : Cond.fieldLink RX11 291 "WetSuitPedalsShoes$Trial" "who" "LWetSuitPedalsShoes$Athlete;" ∈ zU := zU_m 187 (by decide +kernel) rfl
theorem mlRX11_295 : Cond.methodLink RX11 295 Lib.Math.min.name ∈ zU := zU_m 620 (by decide +kernel) rfl
set_option maxHeartbeats 4000000 in
set_option maxRecDepth 100000 in
theorem c_X11_finishWith (l : Launch) (E : zE) (G : zG) (r : Nat → Int32) (n na : Nat) (a w : Nat) (v : Int32) (hR : zFA G 1 r n na) (hkd : zKd r n) (hn10 : n ≤ 10) (hna : na ≤ 5) (ha : a < na) (hw : w < 4) : zMi l yX11_finishWith wsX11_finishWith ({ frames := 4, cells := 0, slots := 0, locals := 90 } : Room) E G [.ref (E.1 0), .int (nI a), .int (nI w), .int v] (fun r1 G1 => (m_run (upd r (32 + 4 * a + w) (s_mn 9 (r (32 + 4 * a + w) + v))) a (-1) n).2 = r1 ∧ ∀ k, (k < 48 ∨ 58 < k) → G1 k = G k) := by
  refine zOf (cc := cX11_finishWith) (nL := 4) (ret := (some .int)) RX11 (by decide) rfl rfl (Nat.le_of_ble_eq_true rfl) ?_
  intro p_ e_ s_ m_ a_ b_ me_ c_ ls C0 hP hS hl
  have hx := C0.1
  have hb := C0.2.1
  have hts := C0.2.2.2.2.1
  have hD : zD E (zA E s_.heap.size) := C0.2.2.2.2.2.2.2.2
  have hA : ∀ q : Nat, s_.heap.size ≤ q → zA E s_.heap.size q := fun q h => Or.inr h
  refine z_gen (fun Q_ hQ_ => ?_)
  have hl : lv_has ls 4 [(0, .ref (E.1 0)), (1, .int (nI a)), (2, .int (nI w)), (3, .int v)] := hl
  refine lv_aload_n hx hb dX11_finishWith_0 rfl (lv_at hl 0 rfl) ?_
  refine z_get C0 hP (C := RX11) (T := TX11) (N := 11) (ci := 9) (index := 44) (k := 0) (ref := "WetSuitPedalsShoes") (zk_lt (rfl : zk 0 = 9) (by decide)) (zd_9 E (rfl : zk 0 = 9) _) rfl (zmi inU_11) 6 (by decide) (zm flRX11_44) rfl (v := .ref (E.1 48)) (rfl) dX11_finishWith_1 ?_
  refine lv_aload_n hx hb dX11_finishWith_4 rfl (lv_at hl 0 rfl) ?_
  refine z_get C0 hP (C := RX11) (T := TX11) (N := 11) (ci := 9) (index := 10) (k := 0) (ref := "WetSuitPedalsShoes") (zk_lt (rfl : zk 0 = 9) (by decide)) (zd_9 E (rfl : zk 0 = 9) _) rfl (zmi inU_11) 0 (by decide) (zm flRX11_10) rfl (v := .ref (E.1 1)) (rfl) dX11_finishWith_5 ?_
  refine z_get C0 hP (C := RX3) (T := TX3) (N := 3) (ci := 3) (index := 93) (k := 1) (ref := "WetSuitPedalsShoes$Field") (zk_lt (rfl : zk 1 = 3) (by decide)) (zd_3 E (rfl : zk 1 = 3) _) rfl (zmi inU_3) 0 (by decide) (zm flRX11_93) rfl (v := .ref (E.1 2)) (rfl) dX11_finishWith_8 ?_
  refine lv_aload_n hx hb dX11_finishWith_11 rfl (lv_at hl 0 rfl) ?_
  refine z_get C0 hP (C := RX11) (T := TX11) (N := 11) (ci := 9) (index := 10) (k := 0) (ref := "WetSuitPedalsShoes") (zk_lt (rfl : zk 0 = 9) (by decide)) (zd_9 E (rfl : zk 0 = 9) _) rfl (zmi inU_11) 0 (by decide) (zm flRX11_10) rfl (v := .ref (E.1 1)) (rfl) dX11_finishWith_12 ?_
  refine z_get C0 hP (C := RX3) (T := TX3) (N := 3) (ci := 3) (index := 118) (k := 1) (ref := "WetSuitPedalsShoes$Field") (zk_lt (rfl : zk 1 = 3) (by decide)) (zd_3 E (rfl : zk 1 = 3) _) rfl (zmi inU_3) 1 (by decide) (zm flRX11_118) rfl (v := .ref (E.1 6)) (rfl) dX11_finishWith_15 ?_
  refine lv_iload_n hx hb dX11_finishWith_18 rfl (lv_at hl 1 rfl) ?_
  refine z_aald C0 hP (k := 6) (i := a) (rfl : zk 6 = 12) (by omega) rfl dX11_finishWith_19 (fun at_1 hat_1 => ?_)
  have kat_1 : zIs at_1 tAth := hat_1 ▸ zIs_ath z_lit_Fie_1 (by omega)
  refine z_Vv C0 hP hD hA hS (As := [.ref (E.1 2), .ref (E.1 at_1)]) (rest := []) (k := 48) (c_X10_load l E _ 48 2 at_1 z_lit_Tri_48 z_lit_Cou_2 kat_1 (by omega) (by omega)) (cwV 2 hts (zgV zbw mlRX11_164 imX10_load seX10_load iniRX10 coX10_load) rfl rfl rfl (by decide +kernel) ⟨Nat.le_of_ble_eq_true rfl, Nat.le_of_ble_eq_true rfl⟩) (zk_lt (rfl : zk 48 = 8) (by decide)) (zd_8 E (rfl : zk 48 = 8) _) rfl rfl rfl hl.1 rfl (Nat.le_of_ble_eq_true rfl) dX11_finishWith_20 ⟨Nat.zero_le _, Nat.zero_le _⟩ (fun G2 H locs hw2 hP hS => ?_)
  obtain ⟨hF2, hmn2, hkf2, hab2, htr2, hdr2⟩ := hw2
  refine lv_aload_n hx hb dX11_finishWith_23 rfl (lv_at hl 0 rfl) ?_
  refine z_get C0 hP (C := RX11) (T := TX11) (N := 11) (ci := 9) (index := 44) (k := 0) (ref := "WetSuitPedalsShoes") (zk_lt (rfl : zk 0 = 9) (by decide)) (zd_9 E (rfl : zk 0 = 9) _) rfl (zmi inU_11) 6 (by decide) (zm flRX11_44) rfl (v := .ref (E.1 48)) (rfl) dX11_finishWith_24 ?_
  refine z_get C0 hP (C := RX10) (T := TX10) (N := 6) (ci := 8) (index := 291) (k := 48) (ref := "WetSuitPedalsShoes$Trial") (zk_lt (rfl : zk 48 = 8) (by decide)) (zd_8 E (rfl : zk 48 = 8) _) rfl (zmi inU_10) 1 (by decide) (zm flRX11_291) rfl (v := .ref (E.1 53)) (rfl) dX11_finishWith_27 ?_
  refine z_get C0 hP (C := RX0) (T := TX0) (N := 2) (ci := 0) (index := 122) (k := 53) (ref := "WetSuitPedalsShoes$Athlete") (zk_lt (rfl : zk 53 = 0) (by decide)) (zd_0 E (rfl : zk 53 = 0) _) rfl (zmi inU_0) 0 (by decide) (zm flRX11_122) rfl (v := .ref (E.1 54)) (rfl) dX11_finishWith_30 ?_
  refine lv_iload_n hx hb dX11_finishWith_33 rfl (lv_at hl 2 rfl) ?_
  refine lv_bipush (v := (9 : Int32)) hx hb dX11_finishWith_34 (by decide) ?_
  refine lv_aload_n hx hb dX11_finishWith_36 rfl (lv_at hl 0 rfl) ?_
  refine z_get C0 hP (C := RX11) (T := TX11) (N := 11) (ci := 9) (index := 44) (k := 0) (ref := "WetSuitPedalsShoes") (zk_lt (rfl : zk 0 = 9) (by decide)) (zd_9 E (rfl : zk 0 = 9) _) rfl (zmi inU_11) 6 (by decide) (zm flRX11_44) rfl (v := .ref (E.1 48)) (rfl) dX11_finishWith_37 ?_
  refine z_get C0 hP (C := RX10) (T := TX10) (N := 6) (ci := 8) (index := 291) (k := 48) (ref := "WetSuitPedalsShoes$Trial") (zk_lt (rfl : zk 48 = 8) (by decide)) (zd_8 E (rfl : zk 48 = 8) _) rfl (zmi inU_10) 1 (by decide) (zm flRX11_291) rfl (v := .ref (E.1 53)) (rfl) dX11_finishWith_40 ?_
  refine z_get C0 hP (C := RX0) (T := TX0) (N := 2) (ci := 0) (index := 122) (k := 53) (ref := "WetSuitPedalsShoes$Athlete") (zk_lt (rfl : zk 53 = 0) (by decide)) (zd_0 E (rfl : zk 53 = 0) _) rfl (zmi inU_0) 0 (by decide) (zm flRX11_122) rfl (v := .ref (E.1 54)) (rfl) dX11_finishWith_43 ?_
  refine lv_iload_n hx hb dX11_finishWith_46 rfl (lv_at hl 2 rfl) ?_
  refine z_iald C0 hP (k := 54) (i := w) (v := (G2 54 w)) (rfl : zk 54 = 11) (Nat.lt_of_lt_of_eq (show w < 4 by omega) (rfl : zl 54 = 4).symm) rfl dX11_finishWith_47 (rfl) ?_
  refine lv_iload_n hx hb dX11_finishWith_48 rfl (lv_at hl 3 rfl) ?_
  refine lv_iadd hx hb dX11_finishWith_49 ?_
  refine va_mmin hx hb (C0.2.2.1.trans hl.1.symm) C0.2.2.2.1 (hts _ (zm mlRX11_295)) (hts _ (zm sMath_min)) (hts _ (zm iniMath)) (hts _ (zm coMath_min)) (Nat.le_of_ble_eq_true rfl) (Nat.le_of_ble_eq_true rfl) (Nat.zero_le _) (Nat.zero_le _) dX11_finishWith_50 ?_
  refine z_eqi (y := (s_mn (9 : Int32) ((G2 54 w) + v))) (by unfold s_mn; congr) ?_
  refine z_iast C0 hP hD hS (k := 54) (i := w) (v := (s_mn (9 : Int32) ((G2 54 w) + v))) (F := G2 54) (rfl) (rfl : zk 54 = 11) (Nat.lt_of_lt_of_eq (show w < 4 by omega) (rfl : zl 54 = 4).symm) rfl dX11_finishWith_53 (fun H locs hP hS => ?_)
  refine lv_aload_n hx hb dX11_finishWith_54 rfl (lv_at hl 0 rfl) ?_
  refine z_get C0 hP (C := RX11) (T := TX11) (N := 11) (ci := 9) (index := 44) (k := 0) (ref := "WetSuitPedalsShoes") (zk_lt (rfl : zk 0 = 9) (by decide)) (zd_9 E (rfl : zk 0 = 9) _) rfl (zmi inU_11) 6 (by decide) (zm flRX11_44) rfl (v := .ref (E.1 48)) (rfl) dX11_finishWith_55 ?_
  refine z_Vi C0 hP hD hA hS (As := []) (rest := []) (k := 48) (c_X10_run l E _ 48 n z_lit_Tri_48 ((congrFun (g1_n (by decide)) _).trans (hmn2.trans (hR.1))) (by omega)) (cwV 0 hts (zgV zbw mlRX11_168 imX10_run seX10_run iniRX10 coX10_run) rfl rfl rfl (by decide +kernel) ⟨Nat.le_of_ble_eq_true rfl, Nat.le_of_ble_eq_true rfl⟩) (zk_lt (rfl : zk 48 = 8) (by decide)) (zd_8 E (rfl : zk 48 = 8) _) rfl rfl rfl hl.1 rfl (Nat.le_of_ble_eq_true rfl) dX11_finishWith_58 ⟨Nat.zero_le _, Nat.zero_le _⟩ (fun r3 G3 H locs hw3 hP hS => ?_)
  obtain ⟨hr3, hF3, hrow3⟩ := hw3
  subst hQ_
  exact z_iret C0 hP hS (v := r3) (by have hT0 := zTA_load hR hat_1 ha hmn2 hkf2 hab2 htr2; rw [← (hT0.2.2.1 w hw : G2 54 w = _)]; have hTA : zTA (g1 G2 54 (upd (G2 54) w (s_mn (9 : Int32) ((G2 54 w) + v)))) 48 (upd r (32 + 4 * a + w) (s_mn 9 (G2 54 w + v))) a n := zTA_able hT0 (by omega) (by omega); have h9 := zTA_ran9 hTA (zKd_hi hkd hn10 (by omega)) hn10 hr3 hrow3 ((congrFun (g1_n (by decide)) _).trans hdr2); exact ⟨h9.1, (fun k hk => (hF3 k (by omega)).trans ((g1_n (by omega)).trans (hF2 k (by omega))))⟩) dX11_finishWith_61
set_option maxHeartbeats 4000000 in
set_option maxRecDepth 100000 in
theorem c_X11_finishTrying (l : Launch) (E : zE) (G : zG) (r : Nat → Int32) (n na : Nat) (a i : Nat) (v : Int32) (hR : zFA G 1 r n na) (hkd : zKd r n) (hn10 : n ≤ 10) (hna : na ≤ 5) (ha : a < na) (hi : i < n) : zMi l yX11_finishTrying wsX11_finishTrying ({ frames := 4, cells := 0, slots := 0, locals := 90 } : Room) E G [.ref (E.1 0), .int (nI a), .int (nI i), .int v] (fun r1 G1 => (m_run (upd r (52 + 10 * a + i) v) a (-1) n).2 = r1 ∧ ∀ k, (k < 48 ∨ 58 < k) → G1 k = G k) := by
  refine zOf (cc := cX11_finishTrying) (nL := 4) (ret := (some .int)) RX11 (by decide) rfl rfl (Nat.le_of_ble_eq_true rfl) ?_
  intro p_ e_ s_ m_ a_ b_ me_ c_ ls C0 hP hS hl
  have hx := C0.1
  have hb := C0.2.1
  have hts := C0.2.2.2.2.1
  have hD : zD E (zA E s_.heap.size) := C0.2.2.2.2.2.2.2.2
  have hA : ∀ q : Nat, s_.heap.size ≤ q → zA E s_.heap.size q := fun q h => Or.inr h
  refine z_gen (fun Q_ hQ_ => ?_)
  have hl : lv_has ls 4 [(0, .ref (E.1 0)), (1, .int (nI a)), (2, .int (nI i)), (3, .int v)] := hl
  refine lv_aload_n hx hb dX11_finishTrying_0 rfl (lv_at hl 0 rfl) ?_
  refine z_get C0 hP (C := RX11) (T := TX11) (N := 11) (ci := 9) (index := 44) (k := 0) (ref := "WetSuitPedalsShoes") (zk_lt (rfl : zk 0 = 9) (by decide)) (zd_9 E (rfl : zk 0 = 9) _) rfl (zmi inU_11) 6 (by decide) (zm flRX11_44) rfl (v := .ref (E.1 48)) (rfl) dX11_finishTrying_1 ?_
  refine lv_aload_n hx hb dX11_finishTrying_4 rfl (lv_at hl 0 rfl) ?_
  refine z_get C0 hP (C := RX11) (T := TX11) (N := 11) (ci := 9) (index := 10) (k := 0) (ref := "WetSuitPedalsShoes") (zk_lt (rfl : zk 0 = 9) (by decide)) (zd_9 E (rfl : zk 0 = 9) _) rfl (zmi inU_11) 0 (by decide) (zm flRX11_10) rfl (v := .ref (E.1 1)) (rfl) dX11_finishTrying_5 ?_
  refine z_get C0 hP (C := RX3) (T := TX3) (N := 3) (ci := 3) (index := 93) (k := 1) (ref := "WetSuitPedalsShoes$Field") (zk_lt (rfl : zk 1 = 3) (by decide)) (zd_3 E (rfl : zk 1 = 3) _) rfl (zmi inU_3) 0 (by decide) (zm flRX11_93) rfl (v := .ref (E.1 2)) (rfl) dX11_finishTrying_8 ?_
  refine lv_aload_n hx hb dX11_finishTrying_11 rfl (lv_at hl 0 rfl) ?_
  refine z_get C0 hP (C := RX11) (T := TX11) (N := 11) (ci := 9) (index := 10) (k := 0) (ref := "WetSuitPedalsShoes") (zk_lt (rfl : zk 0 = 9) (by decide)) (zd_9 E (rfl : zk 0 = 9) _) rfl (zmi inU_11) 0 (by decide) (zm flRX11_10) rfl (v := .ref (E.1 1)) (rfl) dX11_finishTrying_12 ?_
  refine z_get C0 hP (C := RX3) (T := TX3) (N := 3) (ci := 3) (index := 118) (k := 1) (ref := "WetSuitPedalsShoes$Field") (zk_lt (rfl : zk 1 = 3) (by decide)) (zd_3 E (rfl : zk 1 = 3) _) rfl (zmi inU_3) 1 (by decide) (zm flRX11_118) rfl (v := .ref (E.1 6)) (rfl) dX11_finishTrying_15 ?_
  refine lv_iload_n hx hb dX11_finishTrying_18 rfl (lv_at hl 1 rfl) ?_
  refine z_aald C0 hP (k := 6) (i := a) (rfl : zk 6 = 12) (by omega) rfl dX11_finishTrying_19 (fun at_1 hat_1 => ?_)
  have kat_1 : zIs at_1 tAth := hat_1 ▸ zIs_ath z_lit_Fie_1 (by omega)
  refine z_Vv C0 hP hD hA hS (As := [.ref (E.1 2), .ref (E.1 at_1)]) (rest := []) (k := 48) (c_X10_load l E _ 48 2 at_1 z_lit_Tri_48 z_lit_Cou_2 kat_1 (by omega) (by omega)) (cwV 2 hts (zgV zbw mlRX11_164 imX10_load seX10_load iniRX10 coX10_load) rfl rfl rfl (by decide +kernel) ⟨Nat.le_of_ble_eq_true rfl, Nat.le_of_ble_eq_true rfl⟩) (zk_lt (rfl : zk 48 = 8) (by decide)) (zd_8 E (rfl : zk 48 = 8) _) rfl rfl rfl hl.1 rfl (Nat.le_of_ble_eq_true rfl) dX11_finishTrying_20 ⟨Nat.zero_le _, Nat.zero_le _⟩ (fun G2 H locs hw2 hP hS => ?_)
  obtain ⟨hF2, hmn2, hkf2, hab2, htr2, hdr2⟩ := hw2
  refine lv_aload_n hx hb dX11_finishTrying_23 rfl (lv_at hl 0 rfl) ?_
  refine z_get C0 hP (C := RX11) (T := TX11) (N := 11) (ci := 9) (index := 44) (k := 0) (ref := "WetSuitPedalsShoes") (zk_lt (rfl : zk 0 = 9) (by decide)) (zd_9 E (rfl : zk 0 = 9) _) rfl (zmi inU_11) 6 (by decide) (zm flRX11_44) rfl (v := .ref (E.1 48)) (rfl) dX11_finishTrying_24 ?_
  refine z_get C0 hP (C := RX10) (T := TX10) (N := 6) (ci := 8) (index := 291) (k := 48) (ref := "WetSuitPedalsShoes$Trial") (zk_lt (rfl : zk 48 = 8) (by decide)) (zd_8 E (rfl : zk 48 = 8) _) rfl (zmi inU_10) 1 (by decide) (zm flRX11_291) rfl (v := .ref (E.1 53)) (rfl) dX11_finishTrying_27 ?_
  refine z_get C0 hP (C := RX0) (T := TX0) (N := 2) (ci := 0) (index := 127) (k := 53) (ref := "WetSuitPedalsShoes$Athlete") (zk_lt (rfl : zk 53 = 0) (by decide)) (zd_0 E (rfl : zk 53 = 0) _) rfl (zmi inU_0) 1 (by decide) (zm flRX11_127) rfl (v := .ref (E.1 55)) (rfl) dX11_finishTrying_30 ?_
  refine lv_iload_n hx hb dX11_finishTrying_33 rfl (lv_at hl 2 rfl) ?_
  refine lv_iload_n hx hb dX11_finishTrying_34 rfl (lv_at hl 3 rfl) ?_
  refine z_iast C0 hP hD hS (k := 55) (i := i) (v := v) (F := G2 55) (rfl) (rfl : zk 55 = 11) (Nat.lt_of_lt_of_eq (show i < 10 by omega) (rfl : zl 55 = 10).symm) rfl dX11_finishTrying_35 (fun H locs hP hS => ?_)
  refine lv_aload_n hx hb dX11_finishTrying_36 rfl (lv_at hl 0 rfl) ?_
  refine z_get C0 hP (C := RX11) (T := TX11) (N := 11) (ci := 9) (index := 44) (k := 0) (ref := "WetSuitPedalsShoes") (zk_lt (rfl : zk 0 = 9) (by decide)) (zd_9 E (rfl : zk 0 = 9) _) rfl (zmi inU_11) 6 (by decide) (zm flRX11_44) rfl (v := .ref (E.1 48)) (rfl) dX11_finishTrying_37 ?_
  refine z_Vi C0 hP hD hA hS (As := []) (rest := []) (k := 48) (c_X10_run l E _ 48 n z_lit_Tri_48 ((congrFun (g1_n (by decide)) _).trans (hmn2.trans (hR.1))) (by omega)) (cwV 0 hts (zgV zbw mlRX11_168 imX10_run seX10_run iniRX10 coX10_run) rfl rfl rfl (by decide +kernel) ⟨Nat.le_of_ble_eq_true rfl, Nat.le_of_ble_eq_true rfl⟩) (zk_lt (rfl : zk 48 = 8) (by decide)) (zd_8 E (rfl : zk 48 = 8) _) rfl rfl rfl hl.1 rfl (Nat.le_of_ble_eq_true rfl) dX11_finishTrying_40 ⟨Nat.zero_le _, Nat.zero_le _⟩ (fun r3 G3 H locs hw3 hP hS => ?_)
  obtain ⟨hr3, hF3, hrow3⟩ := hw3
  subst hQ_
  exact z_iret C0 hP hS (v := r3) (by have hT0 := zTA_load hR hat_1 ha hmn2 hkf2 hab2 htr2; have hTA : zTA (g1 G2 55 (upd (G2 55) i v)) 48 (upd r (52 + 10 * a + i) (v)) a n := zTA_try hT0 (by omega) (by omega); have h9 := zTA_ran9 hTA (zKd_hi hkd hn10 (by omega)) hn10 hr3 hrow3 ((congrFun (g1_n (by decide)) _).trans hdr2); exact ⟨h9.1, (fun k hk => (hF3 k (by omega)).trans ((g1_n (by omega)).trans (hF2 k (by omega))))⟩) dX11_finishTrying_43
theorem flRX11_241 : Cond.fieldLink RX11 241 "WetSuitPedalsShoes$Field" "many" "I" ∈ zU := zU_m 137 (by decide +kernel) rfl
theorem mlRX11_142 : Cond.methodLink RX11 142 yX11_runPlan ∈ zU := zU_m 455 (by decide +kernel) rfl
theorem coX11_runPlan : Cond.code yX11_runPlan cX11_runPlan 2 (some .int) ∈ zU := zU_m 458 (by decide +kernel) rfl
theorem imX11_runPlan : Cond.instanceMethod yX11_runPlan ∈ zU := zU_m 457 (by decide +kernel) rfl
theorem seX11_runPlan : Cond.selects RX11 yX11_runPlan yX11_runPlan ∈ zU := zU_m 9 (by decide +kernel) rfl
set_option maxHeartbeats 4000000 in
set_option maxRecDepth 100000 in
theorem c_X11_placeBehind (l : Launch) (E : zE) (G : zG) (r : Nat → Int32) (n na : Nat) (x : Int32) (hR : zFA G 1 r n na) (hkd : zKd r n) (hn10 : n ≤ 10) (hna : na ≤ 5)  : zMi l yX11_placeBehind wsX11_placeBehind ({ frames := 5, cells := 0, slots := 0, locals := 111 } : Room) E G [.ref (E.1 0), .int x] (fun r1 G1 => nI (1 + s_cnt (fun b => decide ((m_run r b (-1) n).2 < x)) na) = r1 ∧ ∀ k, (k < 48 ∨ 58 < k) → G1 k = G k) := by
  refine zOf (cc := cX11_placeBehind) (nL := 4) (ret := (some .int)) RX11 (by decide) rfl rfl (Nat.le_of_ble_eq_true rfl) ?_
  intro p_ e_ s_ m_ a_ b_ me_ c_ ls C0 hP hS hl
  have hx := C0.1
  have hb := C0.2.1
  have hts := C0.2.2.2.2.1
  have hD : zD E (zA E s_.heap.size) := C0.2.2.2.2.2.2.2.2
  have hA : ∀ q : Nat, s_.heap.size ≤ q → zA E s_.heap.size q := fun q h => Or.inr h
  refine z_gen (fun Q_ hQ_ => ?_)
  have hl : lv_has ls 4 [(0, .ref (E.1 0)), (1, .int x)] := hl
  refine lv_iconst (v := (1 : Int32)) hx hb dX11_placeBehind_0 (by decide) ?_
  refine lv_istore_n (lv' := [(2, .int (1 : Int32)), (0, .ref (E.1 0)), (1, .int x)]) hx hb dX11_placeBehind_1 rfl hl (by decide) rfl (fun ls hl => ?_)
  refine lv_iconst (v := (0 : Int32)) hx hb dX11_placeBehind_2 (by decide) ?_
  refine lv_istore_n (lv' := [(3, .int (0 : Int32)), (2, .int (1 : Int32)), (0, .ref (E.1 0)), (1, .int x)]) hx hb dX11_placeBehind_3 rfl hl (by decide) rfl (fun ls hl => ?_)
  have cut_4 : ∀ (fuel : Nat), ∀ (i k : Nat) (Gc : zG) (H : Heap) (locs : List Loc) (ls : Array Slot), (i ≤ na) → (k = 1 + s_cnt (fun b => decide ((m_run r b (-1) n).2 < x)) i) → (∀ k, (k < 48 ∨ 58 < k) → Gc k = G k) → zP E Gc H → va_S (zA E s_.heap.size) s_.heap H locs → lv_has ls 4 [(0, .ref (E.1 0)), (1, .int x), (2, .int (nI k)), (3, .int (nI i))] → na - i < fuel → W p_ l e_ ({ frames := 5, cells := 0, slots := 0, locals := 111 } : Room) s_ m_ a_ b_ me_ c_ H locs 0 0 Q_ (F0 m_ 4 ls []) := by
    intro fuel
    induction fuel with
    | zero =>
      intro i k  Gc  H locs ls hin hk hFc hP hS hl hfu
      exact absurd hfu (Nat.not_lt_zero _)
    | succ fuel ih_4 =>
      intro i k  Gc  H locs ls hin hk hFc hP hS hl hfu_4
      refine lv_iload_n hx hb dX11_placeBehind_4 rfl (lv_at hl 3 rfl) ?_
      refine lv_aload_n hx hb dX11_placeBehind_5 rfl (lv_at hl 0 rfl) ?_
      refine z_get C0 hP (C := RX11) (T := TX11) (N := 11) (ci := 9) (index := 10) (k := 0) (ref := "WetSuitPedalsShoes") (zk_lt (rfl : zk 0 = 9) (by decide)) (zd_9 E (rfl : zk 0 = 9) _) rfl (zmi inU_11) 0 (by decide) (zm flRX11_10) rfl (v := .ref (E.1 1)) (rfl) dX11_placeBehind_6 ?_
      refine z_get C0 hP (C := RX3) (T := TX3) (N := 3) (ci := 3) (index := 241) (k := 1) (ref := "WetSuitPedalsShoes$Field") (zk_lt (rfl : zk 1 = 3) (by decide)) (zd_3 E (rfl : zk 1 = 3) _) rfl (zmi inU_3) 2 (by decide) (zm flRX11_241) rfl (v := .int (nI na)) (congrArg (fun z => some (Value.int z)) ((congrFun (hFc _ (by decide)) _).trans (hR.2.1))) dX11_placeBehind_9 ?_
      refine z_N_ge hx hb (a := i) (b := na) (tgt := 33) dX11_placeBehind_12 rfl rfl (by omega) (by omega) (by decide) (fun c_12 => ?_) (fun c_12 => ?_)
      · skip
        refine lv_iload_n hx hb dX11_placeBehind_33 rfl (lv_at hl 2 rfl) ?_
        subst hQ_
        exact z_iret C0 hP hS (v := (nI k)) (by exact ⟨(by rw [hk, show i = na by omega]), hFc⟩) dX11_placeBehind_34
      · skip
        refine lv_aload_n hx hb dX11_placeBehind_15 rfl (lv_at hl 0 rfl) ?_
        refine lv_iload_n hx hb dX11_placeBehind_16 rfl (lv_at hl 3 rfl) ?_
        refine z_Vi C0 hP hD hA hS (As := [.int (nI i)]) (rest := []) (k := 0) (c_X11_runPlan l E _ r n na i (zFA_fr hR (fun k hk => hFc k (by omega)) hna) hkd hn10 hna (by omega)) (cwV 1 hts (zgV zbw mlRX11_142 imX11_runPlan seX11_runPlan iniRX11 coX11_runPlan) rfl rfl rfl (by decide +kernel) ⟨Nat.le_of_ble_eq_true rfl, Nat.le_of_ble_eq_true rfl⟩) (zk_lt (rfl : zk 0 = 9) (by decide)) (zd_9 E (rfl : zk 0 = 9) _) rfl rfl rfl hl.1 rfl (Nat.le_of_ble_eq_true rfl) dX11_placeBehind_17 ⟨Nat.zero_le _, Nat.zero_le _⟩ (fun r1 G1 H locs hw1 hP hS => ?_)
        obtain ⟨hr1, hF1, hTA1, hdr1, h31⟩ := hw1
        subst hr1
        refine lv_iload_n hx hb dX11_placeBehind_20 rfl (lv_at hl 1 rfl) ?_
        refine lv_icmp_ge (tgt := 27) hx hb dX11_placeBehind_21 (by decide) (fun c_21 => ?_) (fun c_21 => ?_)
        · skip
          have d_21 := Int32.not_lt.mpr c_21
          refine lv_iinc (v := (nI (i + 1))) (lv' := [(3, .int (nI (i + 1))), (0, .ref (E.1 0)), (1, .int x), (2, .int (nI k))]) hx hb dX11_placeBehind_27 hl (k := 3) rfl (z_inc (by decide)) (by decide) rfl (fun ls hl => ?_)
          refine lv_goto (tgt := 4) hx hb dX11_placeBehind_30 (by decide) ?_
          exact ih_4 (i + 1) k G1 _ _ _ (by first | assumption | omega) (by rw [hk, s_cnt_n (by simp [c_12, d_21])]) (by exact fun k hk => (hF1 k (by omega)).trans (hFc k (by omega))) hP hS (lv_sub hl [1, 2, 3, 0] rfl) (by omega)
        · skip
          have d_21 := Int32.not_le.mp c_21
          refine lv_iinc (v := (nI (k + 1))) (lv' := [(2, .int (nI (k + 1))), (0, .ref (E.1 0)), (1, .int x), (3, .int (nI i))]) hx hb dX11_placeBehind_24 hl (k := 2) rfl (z_inc (by decide)) (by decide) rfl (fun ls hl => ?_)
          refine lv_iinc (v := (nI (i + 1))) (lv' := [(3, .int (nI (i + 1))), (2, .int (nI (k + 1))), (0, .ref (E.1 0)), (1, .int x)]) hx hb dX11_placeBehind_27 hl (k := 3) rfl (z_inc (by decide)) (by decide) rfl (fun ls hl => ?_)
          refine lv_goto (tgt := 4) hx hb dX11_placeBehind_30 (by decide) ?_
          exact ih_4 (i + 1) (k + 1) G1 _ _ _ (by first | assumption | omega) (by rw [hk, s_cnt_y (by simp [c_12, d_21])]; omega) (by exact fun k hk => (hF1 k (by omega)).trans (hFc k (by omega))) hP hS (lv_sub hl [2, 3, 1, 0] rfl) (by omega)
  exact cut_4 (_ + 1) 0 1 G _ _ _ (by first | assumption | omega) (by rfl) (by exact fun _ _ => rfl) hP hS (lv_sub hl [2, 3, 1, 0] rfl) (Nat.lt_succ_self _)
