/-! laid by wip/whole/vcg.py -/
theorem flRX5_7 : Cond.fieldLink RX5 7 "WetSuitPedalsShoes$Lots" "seed" "I" ∈ zU := zU_m 263 (by decide +kernel) rfl
theorem kkRX5_16 : Cond.constant RX5 16 (1664525) ∈ zU := zU_m 769 (by decide +kernel) rfl
theorem kkRX5_17 : Cond.constant RX5 17 (1013904223) ∈ zU := zU_m 770 (by decide +kernel) rfl
theorem kkRX5_18 : Cond.constant RX5 18 (2147483647) ∈ zU := zU_m 771 (by decide +kernel) rfl
set_option maxHeartbeats 4000000 in
set_option maxRecDepth 100000 in
theorem c_X5_below (l : Launch) (E : zE) (G : zG) (z : Int32) (hz : G 91 0 = z) : zMi l yX5_below wsX5_below ({ frames := 0, cells := 0, slots := 0, locals := 0 } : Room) E G [.ref (E.1 91), .int (4 : Int32)] (fun r1 G1 => dr4 (sd z 1) = r1 ∧ (∀ k, (k < 91 ∨ 91 < k) → G1 k = G k) ∧ G1 91 = upd (G 91) 0 (sd z 1)) := by
  refine zOf (cc := cX5_below) (nL := 2) (ret := (some .int)) RX5 (by decide) rfl rfl (Nat.le_of_ble_eq_true rfl) ?_
  intro p_ e_ s_ m_ a_ b_ me_ c_ ls C0 hP hS hl
  have hx := C0.1
  have hb := C0.2.1
  have hts := C0.2.2.2.2.1
  have hD : zD E (zA E s_.heap.size) := C0.2.2.2.2.2.2.2.2
  have hA : ∀ q : Nat, s_.heap.size ≤ q → zA E s_.heap.size q := fun q h => Or.inr h
  refine z_gen (fun Q_ hQ_ => ?_)
  have hl : lv_has ls 2 [(0, .ref (E.1 91)), (1, .int (4 : Int32))] := hl
  refine lv_aload_n hx hb dX5_below_0 rfl (lv_at hl 0 rfl) ?_
  refine lv_aload_n hx hb dX5_below_1 rfl (lv_at hl 0 rfl) ?_
  refine z_get C0 hP (C := RX5) (T := TX5) (N := 2) (ci := 4) (index := 7) (k := 91) (ref := "WetSuitPedalsShoes$Lots") (zk_lt (rfl : zk 91 = 4) (by decide)) (zd_4 E (rfl : zk 91 = 4) _) rfl (zmi inU_5) 0 (by decide) (zm flRX5_7) rfl (v := .int z) (congrArg (fun z => some (Value.int z)) (hz)) dX5_below_2 ?_
  refine lv_ldc (v := (1664525 : Int32)) hx hb C0.2.2.2.1 (hts _ (zm kkRX5_16)) dX5_below_5 ?_
  refine lv_imul hx hb dX5_below_7 ?_
  refine lv_ldc (v := (1013904223 : Int32)) hx hb C0.2.2.2.1 (hts _ (zm kkRX5_17)) dX5_below_8 ?_
  refine lv_iadd hx hb dX5_below_10 ?_
  refine z_put C0 hP hD hS (C := RX5) (T := TX5) (N := 2) (ci := 4) (index := 7) (k := 91) (ref := "WetSuitPedalsShoes$Lots") (F := G 91) (ty := .int) (rfl) tyX5 tyX5_ok nmX5 (zk_lt (rfl : zk 91 = 4) (by decide)) (zd_4 E (rfl : zk 91 = 4) _) rfl (zmi inU_5) 0 (by decide) (zm flRX5_7) rfl rfl (by decide +kernel) (by rfl) rfl (by show 0 < 2; decide) (upd (G 91) 0 ((z * (1664525 : Int32)) + (1013904223 : Int32))) ((zd_4 E (rfl : zk 91 = 4) _).trans (rfl)) dX5_below_11 (fun H locs hP hS => ?_)
  refine lv_iload_n hx hb dX5_below_14 rfl (lv_at hl 1 rfl) ?_
  refine lv_if_le (tgt := 34) hx hb dX5_below_15 (by decide) (fun h_ => absurd h_ (by decide)) (fun _ => ?_)
  refine lv_aload_n hx hb dX5_below_18 rfl (lv_at hl 0 rfl) ?_
  refine z_get C0 hP (C := RX5) (T := TX5) (N := 2) (ci := 4) (index := 7) (k := 91) (ref := "WetSuitPedalsShoes$Lots") (zk_lt (rfl : zk 91 = 4) (by decide)) (zd_4 E (rfl : zk 91 = 4) _) rfl (zmi inU_5) 0 (by decide) (zm flRX5_7) rfl (v := .int ((z * (1664525 : Int32)) + (1013904223 : Int32))) (congrArg (fun z => some (Value.int z)) ((congrFun (g1_s _ _ _) _).trans (pk_us))) dX5_below_19 ?_
  refine lv_ldc (v := (2147483647 : Int32)) hx hb C0.2.2.2.1 (hts _ (zm kkRX5_18)) dX5_below_22 ?_
  refine lv_iand hx hb dX5_below_24 ?_
  refine lv_sipush (v := (256 : Int32)) hx hb dX5_below_25 (by decide) ?_
  refine lv_idiv hx hb dX5_below_28 (by decide) ?_
  refine lv_iload_n hx hb dX5_below_29 rfl (lv_at hl 1 rfl) ?_
  refine lv_irem hx hb dX5_below_30 (by decide) ?_
  refine lv_goto (tgt := 35) hx hb dX5_below_31 (by decide) ?_
  subst hQ_
  exact z_iret C0 hP hS (v := (((((z * (1664525 : Int32)) + (1013904223 : Int32)) &&& (2147483647 : Int32)) / (256 : Int32)) - ((((z * (1664525 : Int32)) + (1013904223 : Int32)) &&& (2147483647 : Int32)) / (256 : Int32)) / (4 : Int32) * (4 : Int32))) (by exact ⟨rfl, (fun k hk => g1_n (by omega)), g1_s _ _ _⟩) dX5_below_35
theorem flRX11_68 : Cond.fieldLink RX11 68 "WetSuitPedalsShoes" "dice" "LWetSuitPedalsShoes$Lots;" ∈ zU := zU_m 282 (by decide +kernel) rfl
theorem flRX11_275 : Cond.fieldLink RX11 275 "WetSuitPedalsShoes$Lots" "finishOfFirst" "I" ∈ zU := zU_m 266 (by decide +kernel) rfl
theorem mlRX11_308 : Cond.methodLink RX11 308 yX5_below ∈ zU := zU_m 765 (by decide +kernel) rfl
theorem coX5_below : Cond.code yX5_below cX5_below 2 (some .int) ∈ zU := zU_m 768 (by decide +kernel) rfl
theorem imX5_below : Cond.instanceMethod yX5_below ∈ zU := zU_m 766 (by decide +kernel) rfl
theorem seX5_below : Cond.selects RX5 yX5_below yX5_below ∈ zU := zU_m 767 (by decide +kernel) rfl
theorem iniRX5 : Cond.initialized RX5 ∈ zU := zU_m 57 (by decide +kernel) rfl
set_option maxHeartbeats 4000000 in
set_option maxRecDepth 100000 in
theorem c_X11_raceByLot (l : Launch) (E : zE) (G : zG) (r : Nat → Int32) (n na : Nat) (z : Int32) (hR : zFA G 1 r n na) (hkd : zKd r n) (hn10 : n ≤ 10) (hna : na ≤ 5) (hz : G 91 0 = z) : zMi l yX11_raceByLot wsX11_raceByLot ({ frames := 4, cells := 0, slots := 0, locals := 90 } : Room) E G [.ref (E.1 0)] (fun r1 G1 => nI (s_all (l_ok r n z) na) = r1 ∧ (∀ k, (k < 48 ∨ (58 < k ∧ k < 91) ∨ 91 < k) → G1 k = G k) ∧ G1 91 0 = sd z (na * n) ∧ (0 < na → G1 91 1 = l_fin r n z 0)) := by
  refine zOf (cc := cX11_raceByLot) (nL := 4) (ret := (some .boolean)) RX11 (by decide) rfl rfl (Nat.le_of_ble_eq_true rfl) ?_
  intro p_ e_ s_ m_ a_ b_ me_ c_ ls C0 hP hS hl
  have hx := C0.1
  have hb := C0.2.1
  have hts := C0.2.2.2.2.1
  have hD : zD E (zA E s_.heap.size) := C0.2.2.2.2.2.2.2.2
  have hA : ∀ q : Nat, s_.heap.size ≤ q → zA E s_.heap.size q := fun q h => Or.inr h
  refine z_gen (fun Q_ hQ_ => ?_)
  have hl : lv_has ls 4 [(0, .ref (E.1 0))] := hl
  refine lv_iconst (v := (1 : Int32)) hx hb dX11_raceByLot_0 (by decide) ?_
  refine lv_istore_n (lv' := [(1, .int (1 : Int32)), (0, .ref (E.1 0))]) hx hb dX11_raceByLot_1 rfl hl (by decide) rfl (fun ls hl => ?_)
  refine lv_iconst (v := (0 : Int32)) hx hb dX11_raceByLot_2 (by decide) ?_
  refine lv_istore_n (lv' := [(2, .int (0 : Int32)), (1, .int (1 : Int32)), (0, .ref (E.1 0))]) hx hb dX11_raceByLot_3 rfl hl (by decide) rfl (fun ls hl => ?_)
  have cut_4 : ∀ (fuel : Nat), ∀ (a s : Nat) (Gc : zG) (H : Heap) (locs : List Loc) (ls : Array Slot), (a ≤ na) → (∀ k, (k < 48 ∨ (58 < k ∧ k < 91) ∨ 91 < k) → Gc k = G k) → (s = s_all (l_ok r n z) a) → (Gc 91 0 = sd z (a * n)) → (0 < a → Gc 91 1 = l_fin r n z 0) → zP E Gc H → va_S (zA E s_.heap.size) s_.heap H locs → lv_has ls 4 [(0, .ref (E.1 0)), (1, .int (nI s)), (2, .int (nI a))] → na - a < fuel → W p_ l e_ ({ frames := 4, cells := 0, slots := 0, locals := 90 } : Room) s_ m_ a_ b_ me_ c_ H locs 0 0 Q_ (F0 m_ 4 ls []) := by
    intro fuel
    induction fuel with
    | zero =>
      intro a s  Gc  H locs ls han hFc hs hz1 hz2 hP hS hl hfu
      exact absurd hfu (Nat.not_lt_zero _)
    | succ fuel ih_4 =>
      intro a s  Gc  H locs ls han hFc hs hz1 hz2 hP hS hl hfu_4
      refine lv_iload_n hx hb dX11_raceByLot_4 rfl (lv_at hl 2 rfl) ?_
      refine lv_aload_n hx hb dX11_raceByLot_5 rfl (lv_at hl 0 rfl) ?_
      refine z_get C0 hP (C := RX11) (T := TX11) (N := 11) (ci := 9) (index := 10) (k := 0) (ref := "WetSuitPedalsShoes") (zk_lt (rfl : zk 0 = 9) (by decide)) (zd_9 E (rfl : zk 0 = 9) _) rfl (zmi inU_11) 0 (by decide) (zm flRX11_10) rfl (v := .ref (E.1 1)) (rfl) dX11_raceByLot_6 ?_
      refine z_get C0 hP (C := RX3) (T := TX3) (N := 3) (ci := 3) (index := 241) (k := 1) (ref := "WetSuitPedalsShoes$Field") (zk_lt (rfl : zk 1 = 3) (by decide)) (zd_3 E (rfl : zk 1 = 3) _) rfl (zmi inU_3) 2 (by decide) (zm flRX11_241) rfl (v := .int (nI na)) (congrArg (fun z => some (Value.int z)) ((congrFun (hFc _ (by decide)) _).trans (hR.2.1))) dX11_raceByLot_9 ?_
      refine z_N_ge hx hb (a := a) (b := na) (tgt := 122) dX11_raceByLot_12 rfl rfl (by omega) (by omega) (by decide) (fun c_12 => ?_) (fun c_12 => ?_)
      · skip
        refine lv_iload_n hx hb dX11_raceByLot_122 rfl (lv_at hl 1 rfl) ?_
        subst hQ_
        exact z_zret C0 hP hS (v := (nI s)) (z_b01 (by rw [hs]; exact s_all_le _ _)) (by have e9 : a = na := (by omega); rw [e9] at hs hz1; exact ⟨congrArg nI hs.symm, hFc, hz1, fun h => hz2 (by omega)⟩) dX11_raceByLot_123
      · skip
        refine lv_aload_n hx hb dX11_raceByLot_15 rfl (lv_at hl 0 rfl) ?_
        refine z_get C0 hP (C := RX11) (T := TX11) (N := 11) (ci := 9) (index := 44) (k := 0) (ref := "WetSuitPedalsShoes") (zk_lt (rfl : zk 0 = 9) (by decide)) (zd_9 E (rfl : zk 0 = 9) _) rfl (zmi inU_11) 6 (by decide) (zm flRX11_44) rfl (v := .ref (E.1 48)) (rfl) dX11_raceByLot_16 ?_
        refine lv_aload_n hx hb dX11_raceByLot_19 rfl (lv_at hl 0 rfl) ?_
        refine z_get C0 hP (C := RX11) (T := TX11) (N := 11) (ci := 9) (index := 10) (k := 0) (ref := "WetSuitPedalsShoes") (zk_lt (rfl : zk 0 = 9) (by decide)) (zd_9 E (rfl : zk 0 = 9) _) rfl (zmi inU_11) 0 (by decide) (zm flRX11_10) rfl (v := .ref (E.1 1)) (rfl) dX11_raceByLot_20 ?_
        refine z_get C0 hP (C := RX3) (T := TX3) (N := 3) (ci := 3) (index := 93) (k := 1) (ref := "WetSuitPedalsShoes$Field") (zk_lt (rfl : zk 1 = 3) (by decide)) (zd_3 E (rfl : zk 1 = 3) _) rfl (zmi inU_3) 0 (by decide) (zm flRX11_93) rfl (v := .ref (E.1 2)) (rfl) dX11_raceByLot_23 ?_
        refine lv_aload_n hx hb dX11_raceByLot_26 rfl (lv_at hl 0 rfl) ?_
        refine z_get C0 hP (C := RX11) (T := TX11) (N := 11) (ci := 9) (index := 10) (k := 0) (ref := "WetSuitPedalsShoes") (zk_lt (rfl : zk 0 = 9) (by decide)) (zd_9 E (rfl : zk 0 = 9) _) rfl (zmi inU_11) 0 (by decide) (zm flRX11_10) rfl (v := .ref (E.1 1)) (rfl) dX11_raceByLot_27 ?_
        refine z_get C0 hP (C := RX3) (T := TX3) (N := 3) (ci := 3) (index := 118) (k := 1) (ref := "WetSuitPedalsShoes$Field") (zk_lt (rfl : zk 1 = 3) (by decide)) (zd_3 E (rfl : zk 1 = 3) _) rfl (zmi inU_3) 1 (by decide) (zm flRX11_118) rfl (v := .ref (E.1 6)) (rfl) dX11_raceByLot_30 ?_
        refine lv_iload_n hx hb dX11_raceByLot_33 rfl (lv_at hl 2 rfl) ?_
        refine z_aald C0 hP (k := 6) (i := a) (rfl : zk 6 = 12) (by omega) rfl dX11_raceByLot_34 (fun at_1 hat_1 => ?_)
        have kat_1 : zIs at_1 tAth := hat_1 ▸ zIs_ath z_lit_Fie_1 (by omega)
        refine z_Vv C0 hP hD hA hS (As := [.ref (E.1 2), .ref (E.1 at_1)]) (rest := []) (k := 48) (c_X10_load l E _ 48 2 at_1 z_lit_Tri_48 z_lit_Cou_2 kat_1 (by omega) (by omega)) (cwV 2 hts (zgV zbw mlRX11_164 imX10_load seX10_load iniRX10 coX10_load) rfl rfl rfl (by decide +kernel) ⟨Nat.le_of_ble_eq_true rfl, Nat.le_of_ble_eq_true rfl⟩) (zk_lt (rfl : zk 48 = 8) (by decide)) (zd_8 E (rfl : zk 48 = 8) _) rfl rfl rfl hl.1 rfl (Nat.le_of_ble_eq_true rfl) dX11_raceByLot_35 ⟨Nat.zero_le _, Nat.zero_le _⟩ (fun G2 H locs hw2 hP hS => ?_)
        obtain ⟨hF2, hmn2, hkf2, hab2, htr2, hdr2⟩ := hw2
        have hTA2 := zTA_load (t := 48) (zFA_fr hR (fun k hk => hFc k (by omega)) hna) hat_1 (by omega) hmn2 hkf2 hab2 htr2
        refine lv_iconst (v := (0 : Int32)) hx hb dX11_raceByLot_38 (by decide) ?_
        refine lv_istore_n (lv' := [(3, .int (0 : Int32)), (0, .ref (E.1 0)), (1, .int (nI s)), (2, .int (nI a))]) hx hb dX11_raceByLot_39 rfl hl (by decide) rfl (fun ls hl => ?_)
        have cut_40 : ∀ (fuel : Nat), ∀ (i : Nat) (Gd : zG) (H : Heap) (locs : List Loc) (ls : Array Slot), (i ≤ n) → (∀ k, (k < 48 ∨ (58 < k ∧ k < 91) ∨ 91 < k) → Gd k = G k) → (zTA Gd 48 (l_row r z (a * n) a i) a n) → (Gd 48 2 = -9) → (Gd 91 0 = sd z (a * n + i)) → (0 < a → Gd 91 1 = l_fin r n z 0) → zP E Gd H → va_S (zA E s_.heap.size) s_.heap H locs → lv_has ls 4 [(0, .ref (E.1 0)), (1, .int (nI s)), (2, .int (nI a)), (3, .int (nI i))] → n - i < fuel → W p_ l e_ ({ frames := 4, cells := 0, slots := 0, locals := 90 } : Room) s_ m_ a_ b_ me_ c_ H locs 0 0 Q_ (F0 m_ 40 ls []) := by
          intro fuel
          induction fuel with
          | zero =>
            intro i  Gd  H locs ls hin hFd hTAd hdd hzi hz3 hP hS hl hfu
            exact absurd hfu (Nat.not_lt_zero _)
          | succ fuel ih_40 =>
            intro i  Gd  H locs ls hin hFd hTAd hdd hzi hz3 hP hS hl hfu_40
            refine lv_iload_n hx hb dX11_raceByLot_40 rfl (lv_at hl 3 rfl) ?_
            refine lv_aload_n hx hb dX11_raceByLot_41 rfl (lv_at hl 0 rfl) ?_
            refine z_get C0 hP (C := RX11) (T := TX11) (N := 11) (ci := 9) (index := 10) (k := 0) (ref := "WetSuitPedalsShoes") (zk_lt (rfl : zk 0 = 9) (by decide)) (zd_9 E (rfl : zk 0 = 9) _) rfl (zmi inU_11) 0 (by decide) (zm flRX11_10) rfl (v := .ref (E.1 1)) (rfl) dX11_raceByLot_42 ?_
            refine z_get C0 hP (C := RX3) (T := TX3) (N := 3) (ci := 3) (index := 93) (k := 1) (ref := "WetSuitPedalsShoes$Field") (zk_lt (rfl : zk 1 = 3) (by decide)) (zd_3 E (rfl : zk 1 = 3) _) rfl (zmi inU_3) 0 (by decide) (zm flRX11_93) rfl (v := .ref (E.1 2)) (rfl) dX11_raceByLot_45 ?_
            refine z_get C0 hP (C := RX1) (T := TX1) (N := 4) (ci := 1) (index := 138) (k := 2) (ref := "WetSuitPedalsShoes$Course") (zk_lt (rfl : zk 2 = 1) (by decide)) (zd_1 E (rfl : zk 2 = 1) _) rfl (zmi inU_1) 0 (by decide) (zm flRX11_138) rfl (v := .int (nI n)) (congrArg (fun z => some (Value.int z)) ((congrFun (hFd _ (by decide)) _).trans (hR.1))) dX11_raceByLot_48 ?_
            refine z_N_ge hx hb (a := i) (b := n) (tgt := 80) dX11_raceByLot_51 rfl rfl (by omega) (by omega) (by decide) (fun c_51 => ?_) (fun c_51 => ?_)
            · skip
              have e9 : i = n := by omega
              rw [e9] at hTAd hzi
              refine lv_aload_n hx hb dX11_raceByLot_80 rfl (lv_at hl 0 rfl) ?_
              refine z_get C0 hP (C := RX11) (T := TX11) (N := 11) (ci := 9) (index := 44) (k := 0) (ref := "WetSuitPedalsShoes") (zk_lt (rfl : zk 0 = 9) (by decide)) (zd_9 E (rfl : zk 0 = 9) _) rfl (zmi inU_11) 6 (by decide) (zm flRX11_44) rfl (v := .ref (E.1 48)) (rfl) dX11_raceByLot_81 ?_
              refine z_Vi C0 hP hD hA hS (As := []) (rest := []) (k := 48) (c_X10_run l E _ 48 n z_lit_Tri_48 (hTAd.1) (by omega)) (cwV 0 hts (zgV zbw mlRX11_168 imX10_run seX10_run iniRX10 coX10_run) rfl rfl rfl (by decide +kernel) ⟨Nat.le_of_ble_eq_true rfl, Nat.le_of_ble_eq_true rfl⟩) (zk_lt (rfl : zk 48 = 8) (by decide)) (zd_8 E (rfl : zk 48 = 8) _) rfl rfl rfl hl.1 rfl (Nat.le_of_ble_eq_true rfl) dX11_raceByLot_84 ⟨Nat.zero_le _, Nat.zero_le _⟩ (fun r3 G3 H locs hw3 hP hS => ?_)
              obtain ⟨hr3, hF3, hrow3⟩ := hw3
              have h93 := zTA_ran9 hTAd (zKd_l hkd hn10) hn10 hr3 hrow3 hdd
              have hr3 : l_fin r n z a = _ := h93.1
              subst hr3
              refine lv_istore_n (lv' := [(3, .int (l_fin r n z a)), (0, .ref (E.1 0)), (1, .int (nI s)), (2, .int (nI a))]) hx hb dX11_raceByLot_87 rfl hl (by decide) rfl (fun ls hl => ?_)
              refine lv_iload_n hx hb dX11_raceByLot_88 rfl (lv_at hl 3 rfl) ?_
              refine z_0_ne hx hb (a := a) (tgt := 103) dX11_raceByLot_89 rfl (by omega) (by decide) (fun c_89 => ?_) (fun c_89 => ?_)
              · skip
                refine lv_iload_n hx hb dX11_raceByLot_103 rfl (lv_at hl 0 rfl) ?_
                refine lv_aload_n hx hb dX11_raceByLot_104 rfl (lv_at hl 1 rfl) ?_
                refine z_get C0 hP (C := RX11) (T := TX11) (N := 11) (ci := 9) (index := 68) (k := 0) (ref := "WetSuitPedalsShoes") (zk_lt (rfl : zk 0 = 9) (by decide)) (zd_9 E (rfl : zk 0 = 9) _) rfl (zmi inU_11) 10 (by decide) (zm flRX11_68) rfl (v := .ref (E.1 91)) (rfl) dX11_raceByLot_105 ?_
                refine z_get C0 hP (C := RX5) (T := TX5) (N := 2) (ci := 4) (index := 275) (k := 91) (ref := "WetSuitPedalsShoes$Lots") (zk_lt (rfl : zk 91 = 4) (by decide)) (zd_4 E (rfl : zk 91 = 4) _) rfl (zmi inU_5) 1 (by decide) (zm flRX11_275) rfl (v := .int (l_fin r n z 0)) (congrArg (fun z => some (Value.int z)) ((congrFun (hF3 _ (by decide)) _).trans ((hz3 (by omega))))) dX11_raceByLot_108 ?_
                refine lv_icmp_ge (tgt := 116) hx hb dX11_raceByLot_111 (by decide) (fun c_111 => ?_) (fun c_111 => ?_)
                · skip
                  have d_111 := Int32.not_lt.mpr c_111
                  refine lv_iinc (v := (nI (a + 1))) (lv' := [(2, .int (nI (a + 1))), (3, .int (l_fin r n z a)), (0, .ref (E.1 0)), (1, .int (nI s))]) hx hb dX11_raceByLot_116 hl (k := 3) rfl (z_inc (by decide)) (by decide) rfl (fun ls hl => ?_)
                  refine lv_goto (tgt := 4) hx hb dX11_raceByLot_119 (by decide) ?_
                  exact ih_4 (a + 1) s G3 _ _ _ (by first | assumption | omega) (by exact fun k hk => (hF3 k (by omega)).trans (hFd k (by omega))) (by rw [hs]; exact (s_all_y (decide_eq_true (by first | exact Or.inl c_89 | exact Or.inr d_111))).symm) (by exact ((congrFun (hF3 _ (by decide)) _).trans (hzi)).trans (by rw [Nat.succ_mul])) (by intro _; first | exact (congrFun (hF3 _ (by decide)) _).trans ((hz3 (by omega))) | exact ((congrFun (hF3 _ (by decide)) _).trans ((hz3 (by omega)))).trans (by rw [c_89])) hP hS (lv_sub hl [2, 3, 0] rfl) (by omega)
                · skip
                  have d_111 := Int32.not_le.mp c_111
                  refine lv_iconst (v := (0 : Int32)) hx hb dX11_raceByLot_114 (by decide) ?_
                  refine lv_istore_n (lv' := [(1, .int (0 : Int32)), (3, .int (l_fin r n z a)), (0, .ref (E.1 0)), (2, .int (nI a))]) hx hb dX11_raceByLot_115 rfl hl (by decide) rfl (fun ls hl => ?_)
                  refine lv_iinc (v := (nI (a + 1))) (lv' := [(2, .int (nI (a + 1))), (1, .int (0 : Int32)), (3, .int (l_fin r n z a)), (0, .ref (E.1 0))]) hx hb dX11_raceByLot_116 hl (k := 3) rfl (z_inc (by decide)) (by decide) rfl (fun ls hl => ?_)
                  refine lv_goto (tgt := 4) hx hb dX11_raceByLot_119 (by decide) ?_
                  exact ih_4 (a + 1) 0 G3 _ _ _ (by first | assumption | omega) (by exact fun k hk => (hF3 k (by omega)).trans (hFd k (by omega))) (by exact (s_all_n (fun q => (of_decide_eq_true q).elim c_89 (fun z => z d_111))).symm) (by exact ((congrFun (hF3 _ (by decide)) _).trans (hzi)).trans (by rw [Nat.succ_mul])) (by intro _; first | exact (congrFun (hF3 _ (by decide)) _).trans ((hz3 (by omega))) | exact ((congrFun (hF3 _ (by decide)) _).trans ((hz3 (by omega)))).trans (by rw [c_89])) hP hS (lv_sub hl [3, 1, 0] rfl) (by omega)
              · skip
                refine lv_aload_n hx hb dX11_raceByLot_92 rfl (lv_at hl 1 rfl) ?_
                refine z_get C0 hP (C := RX11) (T := TX11) (N := 11) (ci := 9) (index := 68) (k := 0) (ref := "WetSuitPedalsShoes") (zk_lt (rfl : zk 0 = 9) (by decide)) (zd_9 E (rfl : zk 0 = 9) _) rfl (zmi inU_11) 10 (by decide) (zm flRX11_68) rfl (v := .ref (E.1 91)) (rfl) dX11_raceByLot_93 ?_
                refine lv_iload_n hx hb dX11_raceByLot_96 rfl (lv_at hl 0 rfl) ?_
                refine z_put C0 hP hD hS (C := RX5) (T := TX5) (N := 2) (ci := 4) (index := 275) (k := 91) (ref := "WetSuitPedalsShoes$Lots") (F := Gd 91) (ty := .int) (hF3 _ (by decide)) tyX5 tyX5_ok nmX5 (zk_lt (rfl : zk 91 = 4) (by decide)) (zd_4 E (rfl : zk 91 = 4) _) rfl (zmi inU_5) 1 (by decide) (zm flRX11_275) rfl rfl (by decide +kernel) (by rfl) rfl (by show 1 < 2; decide) (upd (Gd 91) 1 (l_fin r n z a)) ((zd_4 E (rfl : zk 91 = 4) _).trans (rfl)) dX11_raceByLot_97 (fun H locs hP hS => ?_)
                refine lv_goto (tgt := 116) hx hb dX11_raceByLot_100 (by decide) ?_
                refine lv_iinc (v := (nI (a + 1))) (lv' := [(2, .int (nI (a + 1))), (3, .int (l_fin r n z a)), (0, .ref (E.1 0)), (1, .int (nI s))]) hx hb dX11_raceByLot_116 hl (k := 3) rfl (z_inc (by decide)) (by decide) rfl (fun ls hl => ?_)
                refine lv_goto (tgt := 4) hx hb dX11_raceByLot_119 (by decide) ?_
                exact ih_4 (a + 1) s (g1 G3 91 (upd (Gd 91) 1 (l_fin r n z a))) _ _ _ (by first | assumption | omega) (by exact fun k hk => (g1_n (by omega)).trans ((hF3 k (by omega)).trans (hFd k (by omega)))) (by rw [hs]; exact (s_all_y (decide_eq_true (by first | exact Or.inl c_89 | exact Or.inr d_111))).symm) (by exact ((congrFun (g1_s _ _ _) _).trans ((pk_un (by decide)).trans (hzi))).trans (by rw [Nat.succ_mul])) (by intro _; first | exact (congrFun (g1_s _ _ _) _).trans (pk_us) | exact ((congrFun (g1_s _ _ _) _).trans (pk_us)).trans (by rw [c_89])) hP hS (lv_sub hl [2, 3, 0] rfl) (by omega)
            · skip
              refine lv_aload_n hx hb dX11_raceByLot_54 rfl (lv_at hl 0 rfl) ?_
              refine z_get C0 hP (C := RX11) (T := TX11) (N := 11) (ci := 9) (index := 44) (k := 0) (ref := "WetSuitPedalsShoes") (zk_lt (rfl : zk 0 = 9) (by decide)) (zd_9 E (rfl : zk 0 = 9) _) rfl (zmi inU_11) 6 (by decide) (zm flRX11_44) rfl (v := .ref (E.1 48)) (rfl) dX11_raceByLot_55 ?_
              refine z_get C0 hP (C := RX10) (T := TX10) (N := 6) (ci := 8) (index := 291) (k := 48) (ref := "WetSuitPedalsShoes$Trial") (zk_lt (rfl : zk 48 = 8) (by decide)) (zd_8 E (rfl : zk 48 = 8) _) rfl (zmi inU_10) 1 (by decide) (zm flRX11_291) rfl (v := .ref (E.1 53)) (rfl) dX11_raceByLot_58 ?_
              refine z_get C0 hP (C := RX0) (T := TX0) (N := 2) (ci := 0) (index := 127) (k := 53) (ref := "WetSuitPedalsShoes$Athlete") (zk_lt (rfl : zk 53 = 0) (by decide)) (zd_0 E (rfl : zk 53 = 0) _) rfl (zmi inU_0) 1 (by decide) (zm flRX11_127) rfl (v := .ref (E.1 55)) (rfl) dX11_raceByLot_61 ?_
              refine lv_iload_n hx hb dX11_raceByLot_64 rfl (lv_at hl 3 rfl) ?_
              refine lv_aload_n hx hb dX11_raceByLot_65 rfl (lv_at hl 0 rfl) ?_
              refine z_get C0 hP (C := RX11) (T := TX11) (N := 11) (ci := 9) (index := 68) (k := 0) (ref := "WetSuitPedalsShoes") (zk_lt (rfl : zk 0 = 9) (by decide)) (zd_9 E (rfl : zk 0 = 9) _) rfl (zmi inU_11) 10 (by decide) (zm flRX11_68) rfl (v := .ref (E.1 91)) (rfl) dX11_raceByLot_66 ?_
              refine lv_iconst (v := (4 : Int32)) hx hb dX11_raceByLot_69 (by decide) ?_
              refine z_Vi C0 hP hD hA hS (As := [.int (4 : Int32)]) (rest := [.int (nI i), .ref (E.1 55)]) (k := 91) (c_X5_below l E _ (sd z (a * n + i)) (hzi)) (cwV 1 hts (zgV zbw mlRX11_308 imX5_below seX5_below iniRX5 coX5_below) rfl rfl rfl (by decide +kernel) ⟨Nat.le_of_ble_eq_true rfl, Nat.le_of_ble_eq_true rfl⟩) (zk_lt (rfl : zk 91 = 4) (by decide)) (zd_4 E (rfl : zk 91 = 4) _) rfl rfl rfl hl.1 rfl (Nat.le_of_ble_eq_true rfl) dX11_raceByLot_70 ⟨Nat.zero_le _, Nat.zero_le _⟩ (fun r4 G4 H locs hw4 hP hS => ?_)
              obtain ⟨hr4, hF4, hq4⟩ := hw4
              have hr4 : dr4 (sd z (a * n + i + 1)) = _ := hr4
              subst hr4
              refine z_iast C0 hP hD hS (k := 55) (i := i) (v := (dr4 (sd z (a * n + i + 1)))) (F := Gd 55) (hF4 _ (by decide)) (rfl : zk 55 = 11) (Nat.lt_of_lt_of_eq (show i < 10 by omega) (rfl : zl 55 = 10).symm) rfl dX11_raceByLot_73 (fun H locs hP hS => ?_)
              refine lv_iinc (v := (nI (i + 1))) (lv' := [(3, .int (nI (i + 1))), (0, .ref (E.1 0)), (1, .int (nI s)), (2, .int (nI a))]) hx hb dX11_raceByLot_74 hl (k := 3) rfl (z_inc (by decide)) (by decide) rfl (fun ls hl => ?_)
              refine lv_goto (tgt := 40) hx hb dX11_raceByLot_77 (by decide) ?_
              exact ih_40 (i + 1) (g1 G4 55 (upd (Gd 55) i (dr4 (sd z (a * n + i + 1))))) _ _ _ (by first | assumption | omega) (by exact fun k hk => (g1_n (by omega)).trans ((hF4 k (by omega)).trans (hFd k (by omega)))) (by have h9 := zTA_try (t := 48) (w := i) (v := dr4 (sd z (a * n + i + 1))) (zTA_o hTAd (fun k hk => hF4 k (by omega))) (by omega) (by omega); rw [l_row_st, show G4 (48 + 7) = Gd 55 from hF4 55 (by omega)] at h9; exact h9) (by exact (congrFun ((g1_n (by decide)).trans (hF4 _ (by decide))) 2).trans hdd) (by exact (congrFun (g1_n (by decide)) _).trans ((congrFun hq4 0).trans pk_us)) (by exact fun h => (congrFun (g1_n (by decide)) 1).trans ((congrFun hq4 1).trans ((pk_un (by decide)).trans (hz3 h)))) hP hS (lv_sub hl [1, 2, 3, 0] rfl) (by omega)
        exact cut_40 (_ + 1) 0 G2 _ _ _ (by first | assumption | omega) (by exact fun k hk => (hF2 k (by omega)).trans (hFc k (by omega))) (by rw [l_row_0]; exact hTA2) (by exact hdr2) (by exact (congrFun (hF2 _ (by decide)) _).trans (hz1)) (by exact fun h => (congrFun (hF2 _ (by decide)) 1).trans (hz2 h)) hP hS (lv_sub hl [1, 2, 3, 0] rfl) (Nat.lt_succ_self _)
  exact cut_4 (_ + 1) 0 1 G _ _ _ (by first | assumption | omega) (by exact fun k hk => rfl) (by rfl) (by rw [Nat.zero_mul]; exact hz) (by exact fun h => absurd h (by omega)) hP hS (lv_sub hl [2, 1, 0] rfl) (Nat.lt_succ_self _)
theorem flRX11_269 : Cond.fieldLink RX11 269 "WetSuitPedalsShoes$Lots" "seed" "I" ∈ zU := zU_m 264 (by decide +kernel) rfl
theorem mlRX11_272 : Cond.methodLink RX11 272 yX11_raceByLot ∈ zU := zU_m 761 (by decide +kernel) rfl
theorem coX11_raceByLot : Cond.code yX11_raceByLot cX11_raceByLot 4 (some .boolean) ∈ zU := zU_m 764 (by decide +kernel) rfl
theorem imX11_raceByLot : Cond.instanceMethod yX11_raceByLot ∈ zU := zU_m 763 (by decide +kernel) rfl
theorem seX11_raceByLot : Cond.selects RX11 yX11_raceByLot yX11_raceByLot ∈ zU := zU_m 25 (by decide +kernel) rfl
set_option maxHeartbeats 4000000 in
set_option maxRecDepth 100000 in
theorem c_X11_lots (l : Launch) (E : zE) (G : zG) (r : Nat → Int32) (n na : Nat) (kk z what : Int32) (hR : zFA G 1 r n na) (hn10 : n ≤ 10) (hna : na ≤ 5) (hp : zPl G) (hkd : zKd r n) : zMi l yX11_lots wsX11_lots ({ frames := 5, cells := 0, slots := 0, locals := 113 } : Room) E G [.ref (E.1 0), .int kk, .int z, .int what] (fun r1 G1 => zQc (A_lots r n na kk z what) G r1 G1) := by
  refine zOf (cc := cX11_lots) (nL := 7) (ret := (some .int)) RX11 (by decide) rfl rfl (Nat.le_of_ble_eq_true rfl) ?_
  intro p_ e_ s_ m_ a_ b_ me_ c_ ls C0 hP hS hl
  have hx := C0.1
  have hb := C0.2.1
  have hts := C0.2.2.2.2.1
  have hD : zD E (zA E s_.heap.size) := C0.2.2.2.2.2.2.2.2
  have hA : ∀ q : Nat, s_.heap.size ≤ q → zA E s_.heap.size q := fun q h => Or.inr h
  refine z_gen (fun Q_ hQ_ => ?_)
  have hl : lv_has ls 7 [(0, .ref (E.1 0)), (1, .int kk), (2, .int z), (3, .int what)] := hl
  refine lv_iload_n hx hb dX11_lots_0 rfl (lv_at hl 1 rfl) ?_
  refine lv_iconst (v := (1 : Int32)) hx hb dX11_lots_1 (by decide) ?_
  refine lv_icmp_ge (tgt := 12) hx hb dX11_lots_2 (by decide) (fun c_2 => ?_) (fun c_2 => ?_)
  · skip
    have d_2 := Int32.not_lt.mpr c_2
    refine lv_iload_n hx hb dX11_lots_12 rfl (lv_at hl 1 rfl) ?_
    refine lv_bipush (v := (20 : Int32)) hx hb dX11_lots_13 (by decide) ?_
    refine lv_icmp_le (tgt := 25) hx hb dX11_lots_15 (by decide) (fun c_15 => ?_) (fun c_15 => ?_)
    · skip
      have d_15 := Int32.not_lt.mpr c_15
      refine lv_iload_n hx hb dX11_lots_25 rfl (lv_at hl 3 rfl) ?_
      refine lv_if_lt (tgt := 34) hx hb dX11_lots_26 (by decide) (fun c_26 => ?_) (fun c_26 => ?_)
      · skip
        refine lv_aload_n hx hb dX11_lots_34 rfl (lv_at hl 0 rfl) ?_
        refine lv_bipush (v := (-2 : Int32)) hx hb dX11_lots_35 (by decide) ?_
        refine z_Vi C0 hP hD hA hS (As := [.int (-2 : Int32)]) (rest := []) (k := 0) (c_X11_refuse l E _ (-2 : Int32) 2 (by decide) (by decide) (by decide)) (cwV 1 hts (zgV zbw mlRX11_72 imX11_refuse seX11_refuse iniRX11 coX11_refuse) rfl rfl rfl (by decide +kernel) ⟨Nat.le_of_ble_eq_true rfl, Nat.le_of_ble_eq_true rfl⟩) (zk_lt (rfl : zk 0 = 9) (by decide)) (zd_9 E (rfl : zk 0 = 9) _) rfl rfl rfl hl.1 rfl (Nat.le_of_ble_eq_true rfl) dX11_lots_37 ⟨Nat.zero_le _, Nat.zero_le _⟩ (fun r1 G1 H locs hw1 hP hS => ?_)
        obtain ⟨rfl, rfl⟩ := hw1
        subst hQ_
        exact z_iret C0 hP hS (v := (-2 : Int32)) (by exact zQc_of (k := 2) (by simp [A_lots, d_2, d_15, c_26]) (fun k hk => g1_n (by omega)) (g1_s _ _ _) (z_plk (g1_n (by decide)) hp)) dX11_lots_40
      · skip
        refine lv_iload_n hx hb dX11_lots_29 rfl (lv_at hl 3 rfl) ?_
        refine lv_iconst (v := (1 : Int32)) hx hb dX11_lots_30 (by decide) ?_
        refine lv_icmp_le (tgt := 41) hx hb dX11_lots_31 (by decide) (fun c_31 => ?_) (fun c_31 => ?_)
        · skip
          have d_31 := Int32.not_lt.mpr c_31
          refine lv_aload_n hx hb dX11_lots_41 rfl (lv_at hl 0 rfl) ?_
          refine z_get C0 hP (C := RX11) (T := TX11) (N := 11) (ci := 9) (index := 10) (k := 0) (ref := "WetSuitPedalsShoes") (zk_lt (rfl : zk 0 = 9) (by decide)) (zd_9 E (rfl : zk 0 = 9) _) rfl (zmi inU_11) 0 (by decide) (zm flRX11_10) rfl (v := .ref (E.1 1)) (rfl) dX11_lots_42 ?_
          refine z_get C0 hP (C := RX3) (T := TX3) (N := 3) (ci := 3) (index := 241) (k := 1) (ref := "WetSuitPedalsShoes$Field") (zk_lt (rfl : zk 1 = 3) (by decide)) (zd_3 E (rfl : zk 1 = 3) _) rfl (zmi inU_3) 2 (by decide) (zm flRX11_241) rfl (v := .int (nI na)) (congrArg (fun z => some (Value.int z)) (hR.2.1)) dX11_lots_45 ?_
          refine z_0_ne hx hb (a := na) (tgt := 58) dX11_lots_48 rfl (by omega) (by decide) (fun c_48 => ?_) (fun c_48 => ?_)
          · skip
            obtain ⟨kn, hkn, rfl⟩ := z_rng (m := 21) (fun q => d_2 (Int32.lt_trans q (by decide))) c_15 (by decide) (by decide)
            have hy_kn : zix (nI kn) = kn := zix_n (by omega)
            obtain ⟨wh, hwh, rfl⟩ := z_rng (m := 2) c_26 c_31 (by decide) (by decide)
            have hy_wh : zix (nI wh) = wh := zix_n (by omega)
            refine lv_aload_n hx hb dX11_lots_58 rfl (lv_at hl 0 rfl) ?_
            refine z_get C0 hP (C := RX11) (T := TX11) (N := 11) (ci := 9) (index := 68) (k := 0) (ref := "WetSuitPedalsShoes") (zk_lt (rfl : zk 0 = 9) (by decide)) (zd_9 E (rfl : zk 0 = 9) _) rfl (zmi inU_11) 10 (by decide) (zm flRX11_68) rfl (v := .ref (E.1 91)) (rfl) dX11_lots_59 ?_
            refine lv_iload_n hx hb dX11_lots_62 rfl (lv_at hl 2 rfl) ?_
            refine z_put C0 hP hD hS (C := RX5) (T := TX5) (N := 2) (ci := 4) (index := 269) (k := 91) (ref := "WetSuitPedalsShoes$Lots") (F := G 91) (ty := .int) (rfl) tyX5 tyX5_ok nmX5 (zk_lt (rfl : zk 91 = 4) (by decide)) (zd_4 E (rfl : zk 91 = 4) _) rfl (zmi inU_5) 0 (by decide) (zm flRX11_269) rfl rfl (by decide +kernel) (by rfl) rfl (by show 0 < 2; decide) (upd (G 91) 0 z) ((zd_4 E (rfl : zk 91 = 4) _).trans (rfl)) dX11_lots_63 (fun H locs hP hS => ?_)
            refine lv_iconst (v := (0 : Int32)) hx hb dX11_lots_66 (by decide) ?_
            refine lv_istore (lv' := [(4, .int (0 : Int32)), (0, .ref (E.1 0)), (1, .int (nI kn)), (2, .int z), (3, .int (nI wh))]) hx hb dX11_lots_67 hl (by decide) rfl (fun ls hl => ?_)
            refine lv_iconst (v := (0 : Int32)) hx hb dX11_lots_69 (by decide) ?_
            refine lv_istore (lv' := [(5, .int (0 : Int32)), (4, .int (0 : Int32)), (0, .ref (E.1 0)), (1, .int (nI kn)), (2, .int z), (3, .int (nI wh))]) hx hb dX11_lots_70 hl (by decide) rfl (fun ls hl => ?_)
            have cut_72 : ∀ (fuel : Nat), ∀ (t : Nat) (an : Int32) (Gc : zG) (H : Heap) (locs : List Loc) (ls : Array Slot), (t ≤ kn) → (∀ k, (k < 48 ∨ (58 < k ∧ k < 91) ∨ 91 < k) → Gc k = G k) → (an = l_tot r n na z wh t) → (Gc 91 0 = (sd z (t * (na * n)))) → zP E Gc H → va_S (zA E s_.heap.size) s_.heap H locs → lv_has ls 7 [(0, .ref (E.1 0)), (1, .int (nI kn)), (2, .int z), (3, .int (nI wh)), (4, .int an), (5, .int (nI t))] → kn - t < fuel → W p_ l e_ ({ frames := 5, cells := 0, slots := 0, locals := 113 } : Room) s_ m_ a_ b_ me_ c_ H locs 0 0 Q_ (F0 m_ 72 ls []) := by
              intro fuel
              induction fuel with
              | zero =>
                intro t  an  Gc  H locs ls ht hFc han hz1 hP hS hl hfu
                exact absurd hfu (Nat.not_lt_zero _)
              | succ fuel ih_72 =>
                intro t  an  Gc  H locs ls ht hFc han hz1 hP hS hl hfu_72
                refine lv_iload hx hb dX11_lots_72 (lv_at hl 5 rfl) ?_
                refine lv_iload_n hx hb dX11_lots_74 rfl (lv_at hl 1 rfl) ?_
                refine z_N_ge hx hb (a := t) (b := kn) (tgt := 119) dX11_lots_75 rfl rfl (by omega) (by omega) (by decide) (fun c_75 => ?_) (fun c_75 => ?_)
                · skip
                  have e9 := (show l_tot r n na z wh kn = an by rw [han, show t = kn by omega])
                  refine lv_iload hx hb dX11_lots_119 (lv_at hl 4 rfl) ?_
                  subst hQ_
                  exact z_iret C0 hP hS (v := an) (by exact zQc_of (k := 0) (by simp [A_lots, d_2, d_15, c_26, d_31, c_48, hy_kn, hy_wh, c_75, e9]) (fun k hk => hFc k (by omega)) (hFc _ (by decide)) (z_plk (hFc _ (by decide)) hp)) dX11_lots_121
                · skip
                  refine lv_aload_n hx hb dX11_lots_78 rfl (lv_at hl 0 rfl) ?_
                  refine z_Vi C0 hP hD hA hS (As := []) (rest := []) (k := 0) (c_X11_raceByLot l E _ r n na (sd z (t * (na * n))) (zFA_fr hR (fun k hk => hFc k (by omega)) hna) hkd hn10 hna (hz1)) (cwV 0 hts (zgV zbw mlRX11_272 imX11_raceByLot seX11_raceByLot iniRX11 coX11_raceByLot) rfl rfl rfl (by decide +kernel) ⟨Nat.le_of_ble_eq_true rfl, Nat.le_of_ble_eq_true rfl⟩) (zk_lt (rfl : zk 0 = 9) (by decide)) (zd_9 E (rfl : zk 0 = 9) _) rfl rfl rfl hl.1 rfl (Nat.le_of_ble_eq_true rfl) dX11_lots_79 ⟨Nat.zero_le _, Nat.zero_le _⟩ (fun r2 G2 H locs hw2 hP hS => ?_)
                  obtain ⟨hr2, hF2, hz32, hz42⟩ := hw2
                  subst hr2
                  refine lv_istore (lv' := [(6, .int (nI (s_all (l_ok r n (sd z (t * (na * n)))) na))), (0, .ref (E.1 0)), (1, .int (nI kn)), (2, .int z), (3, .int (nI wh)), (4, .int an), (5, .int (nI t))]) hx hb dX11_lots_82 hl (by decide) rfl (fun ls hl => ?_)
                  refine lv_iload hx hb dX11_lots_84 (lv_at hl 5 rfl) ?_
                  refine lv_iload_n hx hb dX11_lots_86 rfl (lv_at hl 4 rfl) ?_
                  refine z_0_ne hx hb (a := wh) (tgt := 100) dX11_lots_87 rfl (by omega) (by decide) (fun c_87 => ?_) (fun c_87 => ?_)
                  · skip
                    refine lv_iload hx hb dX11_lots_100 (lv_at hl 0 rfl) ?_
                    refine z_0_eq hx hb (a := s_all (l_ok r n (sd z (t * (na * n)))) na) (tgt := 109) dX11_lots_102 rfl (by (have h9 := s_all_le (l_ok r n (sd z (t * (na * n)))) na; omega)) (by decide) (fun c_102 => ?_) (fun c_102 => ?_)
                    · skip
                      refine lv_iconst (v := (0 : Int32)) hx hb dX11_lots_109 (by decide) ?_
                      refine lv_iadd hx hb dX11_lots_110 ?_
                      refine lv_istore (lv' := [(4, .int (an + (0 : Int32))), (6, .int (nI (s_all (l_ok r n (sd z (t * (na * n)))) na))), (0, .ref (E.1 0)), (1, .int (nI kn)), (2, .int z), (3, .int (nI wh)), (5, .int (nI t))]) hx hb dX11_lots_111 hl (by decide) rfl (fun ls hl => ?_)
                      refine lv_iinc (v := (nI (t + 1))) (lv' := [(5, .int (nI (t + 1))), (4, .int (an + (0 : Int32))), (6, .int (nI (s_all (l_ok r n (sd z (t * (na * n)))) na))), (0, .ref (E.1 0)), (1, .int (nI kn)), (2, .int z), (3, .int (nI wh))]) hx hb dX11_lots_113 hl (k := 6) rfl (z_inc (by decide)) (by decide) rfl (fun ls hl => ?_)
                      refine lv_goto (tgt := 72) hx hb dX11_lots_116 (by decide) ?_
                      exact ih_72 (t + 1) (an + (0 : Int32)) G2 _ _ _ (by first | assumption | omega) (by exact fun k hk => (hF2 k (by omega)).trans (hFc k (by omega))) (by exact l_tot_st han (by first | exact l_one_f c_87 | exact l_one_1 c_87 c_102 | exact l_one_0 c_87 c_102)) (by exact (hz32.trans (by rw [sd_add, Nat.succ_mul]))) hP hS (lv_sub hl [3, 4, 5, 6, 1, 0] rfl) (by omega)
                    · skip
                      refine lv_iconst (v := (1 : Int32)) hx hb dX11_lots_105 (by decide) ?_
                      refine lv_goto (tgt := 110) hx hb dX11_lots_106 (by decide) ?_
                      refine lv_iadd hx hb dX11_lots_110 ?_
                      refine lv_istore (lv' := [(4, .int (an + (1 : Int32))), (6, .int (nI (s_all (l_ok r n (sd z (t * (na * n)))) na))), (0, .ref (E.1 0)), (1, .int (nI kn)), (2, .int z), (3, .int (nI wh)), (5, .int (nI t))]) hx hb dX11_lots_111 hl (by decide) rfl (fun ls hl => ?_)
                      refine lv_iinc (v := (nI (t + 1))) (lv' := [(5, .int (nI (t + 1))), (4, .int (an + (1 : Int32))), (6, .int (nI (s_all (l_ok r n (sd z (t * (na * n)))) na))), (0, .ref (E.1 0)), (1, .int (nI kn)), (2, .int z), (3, .int (nI wh))]) hx hb dX11_lots_113 hl (k := 6) rfl (z_inc (by decide)) (by decide) rfl (fun ls hl => ?_)
                      refine lv_goto (tgt := 72) hx hb dX11_lots_116 (by decide) ?_
                      exact ih_72 (t + 1) (an + (1 : Int32)) G2 _ _ _ (by first | assumption | omega) (by exact fun k hk => (hF2 k (by omega)).trans (hFc k (by omega))) (by exact l_tot_st han (by first | exact l_one_f c_87 | exact l_one_1 c_87 c_102 | exact l_one_0 c_87 c_102)) (by exact (hz32.trans (by rw [sd_add, Nat.succ_mul]))) hP hS (lv_sub hl [3, 4, 5, 6, 1, 0] rfl) (by omega)
                  · skip
                    refine lv_aload_n hx hb dX11_lots_90 rfl (lv_at hl 1 rfl) ?_
                    refine z_get C0 hP (C := RX11) (T := TX11) (N := 11) (ci := 9) (index := 68) (k := 0) (ref := "WetSuitPedalsShoes") (zk_lt (rfl : zk 0 = 9) (by decide)) (zd_9 E (rfl : zk 0 = 9) _) rfl (zmi inU_11) 10 (by decide) (zm flRX11_68) rfl (v := .ref (E.1 91)) (rfl) dX11_lots_91 ?_
                    refine z_get C0 hP (C := RX5) (T := TX5) (N := 2) (ci := 4) (index := 275) (k := 91) (ref := "WetSuitPedalsShoes$Lots") (zk_lt (rfl : zk 91 = 4) (by decide)) (zd_4 E (rfl : zk 91 = 4) _) rfl (zmi inU_5) 1 (by decide) (zm flRX11_275) rfl (v := .int (l_fin r n (sd z (t * (na * n))) 0)) (congrArg (fun z => some (Value.int z)) ((hz42 (by omega)))) dX11_lots_94 ?_
                    refine lv_goto (tgt := 110) hx hb dX11_lots_97 (by decide) ?_
                    refine lv_iadd hx hb dX11_lots_110 ?_
                    refine lv_istore (lv' := [(4, .int (an + (l_fin r n (sd z (t * (na * n))) 0))), (6, .int (nI (s_all (l_ok r n (sd z (t * (na * n)))) na))), (0, .ref (E.1 0)), (1, .int (nI kn)), (2, .int z), (3, .int (nI wh)), (5, .int (nI t))]) hx hb dX11_lots_111 hl (by decide) rfl (fun ls hl => ?_)
                    refine lv_iinc (v := (nI (t + 1))) (lv' := [(5, .int (nI (t + 1))), (4, .int (an + (l_fin r n (sd z (t * (na * n))) 0))), (6, .int (nI (s_all (l_ok r n (sd z (t * (na * n)))) na))), (0, .ref (E.1 0)), (1, .int (nI kn)), (2, .int z), (3, .int (nI wh))]) hx hb dX11_lots_113 hl (k := 6) rfl (z_inc (by decide)) (by decide) rfl (fun ls hl => ?_)
                    refine lv_goto (tgt := 72) hx hb dX11_lots_116 (by decide) ?_
                    exact ih_72 (t + 1) (an + (l_fin r n (sd z (t * (na * n))) 0)) G2 _ _ _ (by first | assumption | omega) (by exact fun k hk => (hF2 k (by omega)).trans (hFc k (by omega))) (by exact l_tot_st han (by first | exact l_one_f c_87 | exact l_one_1 c_87 c_102 | exact l_one_0 c_87 c_102)) (by exact (hz32.trans (by rw [sd_add, Nat.succ_mul]))) hP hS (lv_sub hl [3, 4, 5, 6, 1, 0] rfl) (by omega)
            exact cut_72 (_ + 1) 0 (0 : Int32) (g1 G 91 (upd (G 91) 0 z)) _ _ _ (by first | assumption | omega) (by exact fun k hk => g1_n (by omega)) (by rfl) (by rw [Nat.zero_mul]; exact (congrFun (g1_s _ _ _) _).trans (pk_us)) hP hS (lv_sub hl [2, 3, 4, 5, 1, 0] rfl) (Nat.lt_succ_self _)
          · skip
            refine lv_aload_n hx hb dX11_lots_51 rfl (lv_at hl 0 rfl) ?_
            refine lv_bipush (v := (-3 : Int32)) hx hb dX11_lots_52 (by decide) ?_
            refine z_Vi C0 hP hD hA hS (As := [.int (-3 : Int32)]) (rest := []) (k := 0) (c_X11_refuse l E _ (-3 : Int32) 3 (by decide) (by decide) (by decide)) (cwV 1 hts (zgV zbw mlRX11_72 imX11_refuse seX11_refuse iniRX11 coX11_refuse) rfl rfl rfl (by decide +kernel) ⟨Nat.le_of_ble_eq_true rfl, Nat.le_of_ble_eq_true rfl⟩) (zk_lt (rfl : zk 0 = 9) (by decide)) (zd_9 E (rfl : zk 0 = 9) _) rfl rfl rfl hl.1 rfl (Nat.le_of_ble_eq_true rfl) dX11_lots_54 ⟨Nat.zero_le _, Nat.zero_le _⟩ (fun r3 G3 H locs hw3 hP hS => ?_)
            obtain ⟨rfl, rfl⟩ := hw3
            subst hQ_
            exact z_iret C0 hP hS (v := (-3 : Int32)) (by exact zQc_of (k := 3) (by simp [A_lots, d_2, d_15, c_26, d_31, c_48]) (fun k hk => g1_n (by omega)) (g1_s _ _ _) (z_plk (g1_n (by decide)) hp)) dX11_lots_57
        · skip
          have d_31 := Int32.not_le.mp c_31
          refine lv_aload_n hx hb dX11_lots_34 rfl (lv_at hl 0 rfl) ?_
          refine lv_bipush (v := (-2 : Int32)) hx hb dX11_lots_35 (by decide) ?_
          refine z_Vi C0 hP hD hA hS (As := [.int (-2 : Int32)]) (rest := []) (k := 0) (c_X11_refuse l E _ (-2 : Int32) 2 (by decide) (by decide) (by decide)) (cwV 1 hts (zgV zbw mlRX11_72 imX11_refuse seX11_refuse iniRX11 coX11_refuse) rfl rfl rfl (by decide +kernel) ⟨Nat.le_of_ble_eq_true rfl, Nat.le_of_ble_eq_true rfl⟩) (zk_lt (rfl : zk 0 = 9) (by decide)) (zd_9 E (rfl : zk 0 = 9) _) rfl rfl rfl hl.1 rfl (Nat.le_of_ble_eq_true rfl) dX11_lots_37 ⟨Nat.zero_le _, Nat.zero_le _⟩ (fun r4 G4 H locs hw4 hP hS => ?_)
          obtain ⟨rfl, rfl⟩ := hw4
          subst hQ_
          exact z_iret C0 hP hS (v := (-2 : Int32)) (by exact zQc_of (k := 2) (by simp [A_lots, d_2, d_15, c_26, d_31]) (fun k hk => g1_n (by omega)) (g1_s _ _ _) (z_plk (g1_n (by decide)) hp)) dX11_lots_40
    · skip
      have d_15 := Int32.not_le.mp c_15
      refine lv_aload_n hx hb dX11_lots_18 rfl (lv_at hl 0 rfl) ?_
      refine lv_bipush (v := (-6 : Int32)) hx hb dX11_lots_19 (by decide) ?_
      refine z_Vi C0 hP hD hA hS (As := [.int (-6 : Int32)]) (rest := []) (k := 0) (c_X11_refuse l E _ (-6 : Int32) 6 (by decide) (by decide) (by decide)) (cwV 1 hts (zgV zbw mlRX11_72 imX11_refuse seX11_refuse iniRX11 coX11_refuse) rfl rfl rfl (by decide +kernel) ⟨Nat.le_of_ble_eq_true rfl, Nat.le_of_ble_eq_true rfl⟩) (zk_lt (rfl : zk 0 = 9) (by decide)) (zd_9 E (rfl : zk 0 = 9) _) rfl rfl rfl hl.1 rfl (Nat.le_of_ble_eq_true rfl) dX11_lots_21 ⟨Nat.zero_le _, Nat.zero_le _⟩ (fun r5 G5 H locs hw5 hP hS => ?_)
      obtain ⟨rfl, rfl⟩ := hw5
      subst hQ_
      exact z_iret C0 hP hS (v := (-6 : Int32)) (by exact zQc_of (k := 6) (by simp [A_lots, d_2, d_15]) (fun k hk => g1_n (by omega)) (g1_s _ _ _) (z_plk (g1_n (by decide)) hp)) dX11_lots_24
  · skip
    have d_2 := Int32.not_le.mp c_2
    refine lv_aload_n hx hb dX11_lots_5 rfl (lv_at hl 0 rfl) ?_
    refine lv_bipush (v := (-4 : Int32)) hx hb dX11_lots_6 (by decide) ?_
    refine z_Vi C0 hP hD hA hS (As := [.int (-4 : Int32)]) (rest := []) (k := 0) (c_X11_refuse l E _ (-4 : Int32) 4 (by decide) (by decide) (by decide)) (cwV 1 hts (zgV zbw mlRX11_72 imX11_refuse seX11_refuse iniRX11 coX11_refuse) rfl rfl rfl (by decide +kernel) ⟨Nat.le_of_ble_eq_true rfl, Nat.le_of_ble_eq_true rfl⟩) (zk_lt (rfl : zk 0 = 9) (by decide)) (zd_9 E (rfl : zk 0 = 9) _) rfl rfl rfl hl.1 rfl (Nat.le_of_ble_eq_true rfl) dX11_lots_8 ⟨Nat.zero_le _, Nat.zero_le _⟩ (fun r6 G6 H locs hw6 hP hS => ?_)
    obtain ⟨rfl, rfl⟩ := hw6
    subst hQ_
    exact z_iret C0 hP hS (v := (-4 : Int32)) (by exact zQc_of (k := 4) (by simp [A_lots, d_2]) (fun k hk => g1_n (by omega)) (g1_s _ _ _) (z_plk (g1_n (by decide)) hp)) dX11_lots_11
theorem flRX12_195 : Cond.fieldLink RX12 195 "WetSuitPedalsShoesModel" "seed" "I" ∈ zU := zU_m 828 (by decide +kernel) rfl
theorem kkRX12_198 : Cond.constant RX12 198 (1664525) ∈ zU := zU_m 1131 (by decide +kernel) rfl
theorem kkRX12_199 : Cond.constant RX12 199 (1013904223) ∈ zU := zU_m 1132 (by decide +kernel) rfl
theorem kkRX12_200 : Cond.constant RX12 200 (2147483647) ∈ zU := zU_m 1133 (by decide +kernel) rfl
set_option maxHeartbeats 4000000 in
set_option maxRecDepth 100000 in
theorem c_X12_drawn (l : Launch) (E : zE) (G : zG) (z : Int32) (hz : G 92 20 = z) : zMi l yX12_drawn wsX12_drawn ({ frames := 0, cells := 0, slots := 0, locals := 0 } : Room) E G [.ref (E.1 92), .int (4 : Int32)] (fun r1 G1 => dr4 (sd z 1) = r1 ∧ (∀ k, (k < 92 ∨ 92 < k) → G1 k = G k) ∧ G1 92 = upd (G 92) 20 (sd z 1)) := by
  refine zOf (cc := cX12_drawn) (nL := 2) (ret := (some .int)) RX12 (by decide) rfl rfl (Nat.le_of_ble_eq_true rfl) ?_
  intro p_ e_ s_ m_ a_ b_ me_ c_ ls C0 hP hS hl
  have hx := C0.1
  have hb := C0.2.1
  have hts := C0.2.2.2.2.1
  have hD : zD E (zA E s_.heap.size) := C0.2.2.2.2.2.2.2.2
  have hA : ∀ q : Nat, s_.heap.size ≤ q → zA E s_.heap.size q := fun q h => Or.inr h
  refine z_gen (fun Q_ hQ_ => ?_)
  have hl : lv_has ls 2 [(0, .ref (E.1 92)), (1, .int (4 : Int32))] := hl
  refine lv_aload_n hx hb dX12_drawn_0 rfl (lv_at hl 0 rfl) ?_
  refine lv_aload_n hx hb dX12_drawn_1 rfl (lv_at hl 0 rfl) ?_
  refine z_get C0 hP (C := RX12) (T := TX12) (N := 21) (ci := 10) (index := 195) (k := 92) (ref := "WetSuitPedalsShoesModel") (zk_lt (rfl : zk 92 = 10) (by decide)) (zd_10 E (rfl : zk 92 = 10) _) rfl (zmi inU_12) 20 (by decide) (zm flRX12_195) rfl (v := .int z) (congrArg (fun z => some (Value.int z)) (hz)) dX12_drawn_2 ?_
  refine lv_ldc (v := (1664525 : Int32)) hx hb C0.2.2.2.1 (hts _ (zm kkRX12_198)) dX12_drawn_5 ?_
  refine lv_imul hx hb dX12_drawn_7 ?_
  refine lv_ldc (v := (1013904223 : Int32)) hx hb C0.2.2.2.1 (hts _ (zm kkRX12_199)) dX12_drawn_8 ?_
  refine lv_iadd hx hb dX12_drawn_10 ?_
  refine z_put C0 hP hD hS (C := RX12) (T := TX12) (N := 21) (ci := 10) (index := 195) (k := 92) (ref := "WetSuitPedalsShoesModel") (F := G 92) (ty := .int) (rfl) tyX12 tyX12_ok nmX12 (zk_lt (rfl : zk 92 = 10) (by decide)) (zd_10 E (rfl : zk 92 = 10) _) rfl (zmi inU_12) 20 (by decide) (zm flRX12_195) rfl rfl (by decide +kernel) (by rfl) rfl (by show 20 < 21; decide) (upd (G 92) 20 ((z * (1664525 : Int32)) + (1013904223 : Int32))) ((zd_10 E (rfl : zk 92 = 10) _).trans (rfl)) dX12_drawn_11 (fun H locs hP hS => ?_)
  refine lv_aload_n hx hb dX12_drawn_14 rfl (lv_at hl 0 rfl) ?_
  refine z_get C0 hP (C := RX12) (T := TX12) (N := 21) (ci := 10) (index := 195) (k := 92) (ref := "WetSuitPedalsShoesModel") (zk_lt (rfl : zk 92 = 10) (by decide)) (zd_10 E (rfl : zk 92 = 10) _) rfl (zmi inU_12) 20 (by decide) (zm flRX12_195) rfl (v := .int ((z * (1664525 : Int32)) + (1013904223 : Int32))) (congrArg (fun z => some (Value.int z)) ((congrFun (g1_s _ _ _) _).trans (pk_us))) dX12_drawn_15 ?_
  refine lv_ldc (v := (2147483647 : Int32)) hx hb C0.2.2.2.1 (hts _ (zm kkRX12_200)) dX12_drawn_18 ?_
  refine lv_iand hx hb dX12_drawn_20 ?_
  refine lv_sipush (v := (256 : Int32)) hx hb dX12_drawn_21 (by decide) ?_
  refine lv_idiv hx hb dX12_drawn_24 (by decide) ?_
  refine lv_iload_n hx hb dX12_drawn_25 rfl (lv_at hl 1 rfl) ?_
  refine lv_irem hx hb dX12_drawn_26 (by decide) ?_
  subst hQ_
  exact z_iret C0 hP hS (v := (((((z * (1664525 : Int32)) + (1013904223 : Int32)) &&& (2147483647 : Int32)) / (256 : Int32)) - ((((z * (1664525 : Int32)) + (1013904223 : Int32)) &&& (2147483647 : Int32)) / (256 : Int32)) / (4 : Int32) * (4 : Int32))) (by exact ⟨rfl, (fun k hk => g1_n (by omega)), g1_s _ _ _⟩) dX12_drawn_27
theorem mlRX12_201 : Cond.methodLink RX12 201 yX12_drawn ∈ zU := zU_m 1127 (by decide +kernel) rfl
theorem coX12_drawn : Cond.code yX12_drawn cX12_drawn 2 (some .int) ∈ zU := zU_m 1130 (by decide +kernel) rfl
theorem imX12_drawn : Cond.instanceMethod yX12_drawn ∈ zU := zU_m 1129 (by decide +kernel) rfl
theorem seX12_drawn : Cond.selects RX12 yX12_drawn yX12_drawn ∈ zU := zU_m 46 (by decide +kernel) rfl
set_option maxHeartbeats 4000000 in
set_option maxRecDepth 100000 in
theorem c_X12_lots (l : Launch) (E : zE) (G : zG) (r : Nat → Int32) (n na : Nat) (kk z what : Int32) (hM : G 93 = r) (hrn : r 0 = nI n) (hrna : r 1 = nI na) (hn10 : n ≤ 10) (hna : na ≤ 5) : zMi l yX12_lots wsX12_lots ({ frames := 6, cells := 0, slots := 0, locals := 142 } : Room) E G [.ref (E.1 92), .int kk, .int z, .int what] (fun r1 G1 => zQs (A_lots r n na kk z what) G r1 G1) := by
  refine zOf (cc := cX12_lots) (nL := 10) (ret := (some .int)) RX12 (by decide) rfl rfl (Nat.le_of_ble_eq_true rfl) ?_
  intro p_ e_ s_ m_ a_ b_ me_ c_ ls C0 hP hS hl
  have hx := C0.1
  have hb := C0.2.1
  have hts := C0.2.2.2.2.1
  have hD : zD E (zA E s_.heap.size) := C0.2.2.2.2.2.2.2.2
  have hA : ∀ q : Nat, s_.heap.size ≤ q → zA E s_.heap.size q := fun q h => Or.inr h
  refine z_gen (fun Q_ hQ_ => ?_)
  have hl : lv_has ls 10 [(0, .ref (E.1 92)), (1, .int kk), (2, .int z), (3, .int what)] := hl
  refine lv_iload_n hx hb dX12_lots_0 rfl (lv_at hl 1 rfl) ?_
  refine lv_iconst (v := (1 : Int32)) hx hb dX12_lots_1 (by decide) ?_
  refine lv_icmp_ge (tgt := 12) hx hb dX12_lots_2 (by decide) (fun c_2 => ?_) (fun c_2 => ?_)
  · skip
    have d_2 := Int32.not_lt.mpr c_2
    refine lv_iload_n hx hb dX12_lots_12 rfl (lv_at hl 1 rfl) ?_
    refine lv_bipush (v := (20 : Int32)) hx hb dX12_lots_13 (by decide) ?_
    refine lv_icmp_le (tgt := 25) hx hb dX12_lots_15 (by decide) (fun c_15 => ?_) (fun c_15 => ?_)
    · skip
      have d_15 := Int32.not_lt.mpr c_15
      refine lv_iload_n hx hb dX12_lots_25 rfl (lv_at hl 3 rfl) ?_
      refine lv_iconst (v := (0 : Int32)) hx hb dX12_lots_26 (by decide) ?_
      refine lv_iconst (v := (1 : Int32)) hx hb dX12_lots_27 (by decide) ?_
      refine z_Si C0 hP hD hA hS (As := [.int what, .int (0 : Int32), .int (1 : Int32)]) (rest := []) (c_X12_isIn l E _ what (0 : Int32) (1 : Int32)) (va_cwS 3 hts (zgS zbw mlRX12_62 stX12_isIn iniRX12 coX12_isIn) rfl rfl rfl (by decide +kernel) ⟨Nat.le_of_ble_eq_true rfl, Nat.le_of_ble_eq_true rfl⟩) rfl hl.1 rfl (Nat.le_of_ble_eq_true rfl) dX12_lots_28 ⟨Nat.zero_le _, Nat.zero_le _⟩ (fun r1 G1 H locs hw1 hP hS => ?_)
      rcases hw1 with ⟨rfl, rfl, hi1_1, hi2_1⟩ | ⟨rfl, rfl, hi0_1⟩
      · skip
        have hi3_1 := Int32.not_lt.mpr hi1_1
        have hi4_1 := Int32.not_lt.mpr hi2_1
        obtain ⟨wh, hwh, rfl⟩ := z_rng (m := 2) hi3_1 hi2_1 (by decide) (by decide)
        have hy_wh : zix (nI wh) = wh := zix_n (by omega)
        refine lv_if_ne (tgt := 41) hx hb dX12_lots_31 (by decide) (fun _ => ?_) (fun h_ => absurd h_ (by decide))
        refine lv_aload_n hx hb dX12_lots_41 rfl (lv_at hl 0 rfl) ?_
        refine z_get C0 hP (C := RX12) (T := TX12) (N := 21) (ci := 10) (index := 9) (k := 92) (ref := "WetSuitPedalsShoesModel") (zk_lt (rfl : zk 92 = 10) (by decide)) (zd_10 E (rfl : zk 92 = 10) _) rfl (zmi inU_12) 0 (by decide) (zm flRX12_9) rfl (v := .ref (E.1 93)) (rfl) dX12_lots_42 ?_
        refine lv_iconst (v := (1 : Int32)) hx hb dX12_lots_45 (by decide) ?_
        refine z_iald C0 hP (k := 93) (i := 1) (v := (nI na)) (rfl : zk 93 = 11) (Nat.lt_of_lt_of_eq (show 1 < 102 by decide) (rfl : zl 93 = 102).symm) rfl dX12_lots_46 ((congrFun (hM) _).trans (hrna)) ?_
        refine z_0_ne hx hb (a := na) (tgt := 57) dX12_lots_47 rfl (by omega) (by decide) (fun c_47 => ?_) (fun c_47 => ?_)
        · skip
          obtain ⟨kn, hkn, rfl⟩ := z_rng (m := 21) (fun q => d_2 (Int32.lt_trans q (by decide))) c_15 (by decide) (by decide)
          have hy_kn : zix (nI kn) = kn := zix_n (by omega)
          refine lv_aload_n hx hb dX12_lots_57 rfl (lv_at hl 0 rfl) ?_
          refine lv_iload_n hx hb dX12_lots_58 rfl (lv_at hl 2 rfl) ?_
          refine z_put C0 hP hD hS (C := RX12) (T := TX12) (N := 21) (ci := 10) (index := 195) (k := 92) (ref := "WetSuitPedalsShoesModel") (F := G 92) (ty := .int) (rfl) tyX12 tyX12_ok nmX12 (zk_lt (rfl : zk 92 = 10) (by decide)) (zd_10 E (rfl : zk 92 = 10) _) rfl (zmi inU_12) 20 (by decide) (zm flRX12_195) rfl rfl (by decide +kernel) (by rfl) rfl (by show 20 < 21; decide) (upd (G 92) 20 z) ((zd_10 E (rfl : zk 92 = 10) _).trans (rfl)) dX12_lots_59 (fun H locs hP hS => ?_)
          refine lv_iconst (v := (0 : Int32)) hx hb dX12_lots_62 (by decide) ?_
          refine lv_istore (lv' := [(4, .int (0 : Int32)), (0, .ref (E.1 92)), (1, .int (nI kn)), (2, .int z), (3, .int (nI wh))]) hx hb dX12_lots_63 hl (by decide) rfl (fun ls hl => ?_)
          refine lv_iconst (v := (0 : Int32)) hx hb dX12_lots_65 (by decide) ?_
          refine lv_istore (lv' := [(5, .int (0 : Int32)), (4, .int (0 : Int32)), (0, .ref (E.1 92)), (1, .int (nI kn)), (2, .int z), (3, .int (nI wh))]) hx hb dX12_lots_66 hl (by decide) rfl (fun ls hl => ?_)
          refine lv_iconst (v := (0 : Int32)) hx hb dX12_lots_68 (by decide) ?_
          refine lv_istore (lv' := [(6, .int (0 : Int32)), (5, .int (0 : Int32)), (4, .int (0 : Int32)), (0, .ref (E.1 92)), (1, .int (nI kn)), (2, .int z), (3, .int (nI wh))]) hx hb dX12_lots_69 hl (by decide) rfl (fun ls hl => ?_)
          have cut_71 : ∀ (fuel : Nat), ∀ (t : Nat) (al fo : Int32) (Gc : zG) (H : Heap) (locs : List Loc) (ls : Array Slot), (t ≤ kn) → (∀ k, (k < 92 ∨ k = 93 ∨ (95 ≤ k ∧ k ≤ 99) ∨ 102 < k) → Gc k = G k) → (∀ x, x < 13 → Gc 92 x = G 92 x) → (al = l_tot r n na z 0 t) → (fo = l_tot r n na z 1 t) → (Gc 92 20 = (sd z (t * (na * n)))) → zP E Gc H → va_S (zA E s_.heap.size) s_.heap H locs → lv_has ls 10 [(0, .ref (E.1 92)), (1, .int (nI kn)), (2, .int z), (3, .int (nI wh)), (4, .int al), (5, .int fo), (6, .int (nI t))] → kn - t < fuel → W p_ l e_ ({ frames := 6, cells := 0, slots := 0, locals := 142 } : Room) s_ m_ a_ b_ me_ c_ H locs 0 0 Q_ (F0 m_ 71 ls []) := by
            intro fuel
            induction fuel with
            | zero =>
              intro t  al fo  Gc  H locs ls ht hFc h92 hal hfo hz1 hP hS hl hfu
              exact absurd hfu (Nat.not_lt_zero _)
            | succ fuel ih_71 =>
              intro t  al fo  Gc  H locs ls ht hFc h92 hal hfo hz1 hP hS hl hfu_71
              refine lv_iload hx hb dX12_lots_71 (lv_at hl 6 rfl) ?_
              refine lv_iload_n hx hb dX12_lots_73 rfl (lv_at hl 1 rfl) ?_
              refine z_N_ge hx hb (a := t) (b := kn) (tgt := 232) dX12_lots_74 rfl rfl (by omega) (by omega) (by decide) (fun c_74 => ?_) (fun c_74 => ?_)
              · skip
                have e7 := (show l_tot r n na z 0 kn = al by rw [hal, show t = kn by omega])
                have e8 := (show l_tot r n na z 1 kn = fo by rw [hfo, show t = kn by omega])
                refine lv_iload_n hx hb dX12_lots_232 rfl (lv_at hl 3 rfl) ?_
                refine z_0_ne hx hb (a := wh) (tgt := 241) dX12_lots_233 rfl (by omega) (by decide) (fun c_233 => ?_) (fun c_233 => ?_)
                · skip
                  refine lv_iload hx hb dX12_lots_241 (lv_at hl 5 rfl) ?_
                  subst hQ_
                  exact z_iret C0 hP hS (v := fo) (by rcases (show wh = 0 ∨ wh = 1 by omega) with h7 | h7; (subst h7; first | (exfalso; omega) | (exact zQs_of (k := 0) (by simp [A_lots, d_2, d_15, hi3_1, hi4_1, hy_wh, c_47, hy_kn, c_74, e7, e8, c_233, z_nI0, z_nI1, zix_0c, zix_1c]) (fun k hk => hFc k (by omega)) (fun x hx => (congrFun (rfl) x).trans (h92 x hx)) (hFc _ (by decide)))); (subst h7; first | (exfalso; omega) | (exact zQs_of (k := 0) (by simp [A_lots, d_2, d_15, hi3_1, hi4_1, hy_wh, c_47, hy_kn, c_74, e7, e8, c_233, z_nI0, z_nI1, zix_0c, zix_1c]) (fun k hk => hFc k (by omega)) (fun x hx => (congrFun (rfl) x).trans (h92 x hx)) (hFc _ (by decide))))) dX12_lots_243
                · skip
                  refine lv_iload hx hb dX12_lots_236 (lv_at hl 4 rfl) ?_
                  refine lv_goto (tgt := 243) hx hb dX12_lots_238 (by decide) ?_
                  subst hQ_
                  exact z_iret C0 hP hS (v := al) (by rcases (show wh = 0 ∨ wh = 1 by omega) with h7 | h7; (subst h7; first | (exfalso; omega) | (exact zQs_of (k := 0) (by simp [A_lots, d_2, d_15, hi3_1, hi4_1, hy_wh, c_47, hy_kn, c_74, e7, e8, c_233, z_nI0, z_nI1, zix_0c, zix_1c]) (fun k hk => hFc k (by omega)) (fun x hx => (congrFun (rfl) x).trans (h92 x hx)) (hFc _ (by decide)))); (subst h7; first | (exfalso; omega) | (exact zQs_of (k := 0) (by simp [A_lots, d_2, d_15, hi3_1, hi4_1, hy_wh, c_47, hy_kn, c_74, e7, e8, c_233, z_nI0, z_nI1, zix_0c, zix_1c]) (fun k hk => hFc k (by omega)) (fun x hx => (congrFun (rfl) x).trans (h92 x hx)) (hFc _ (by decide))))) dX12_lots_243
              · skip
                refine lv_aload_n hx hb dX12_lots_77 rfl (lv_at hl 0 rfl) ?_
                refine z_get C0 hP (C := RX12) (T := TX12) (N := 21) (ci := 10) (index := 9) (k := 92) (ref := "WetSuitPedalsShoesModel") (zk_lt (rfl : zk 92 = 10) (by decide)) (zd_10 E (rfl : zk 92 = 10) _) rfl (zmi inU_12) 0 (by decide) (zm flRX12_9) rfl (v := .ref (E.1 93)) (rfl) dX12_lots_78 ?_
                refine lv_aload_n hx hb dX12_lots_81 rfl (lv_at hl 0 rfl) ?_
                refine z_get C0 hP (C := RX12) (T := TX12) (N := 21) (ci := 10) (index := 13) (k := 92) (ref := "WetSuitPedalsShoesModel") (zk_lt (rfl : zk 92 = 10) (by decide)) (zd_10 E (rfl : zk 92 = 10) _) rfl (zmi inU_12) 1 (by decide) (zm flRX12_13) rfl (v := .ref (E.1 94)) (rfl) dX12_lots_82 ?_
                refine z_Sv C0 hP hD hA hS (As := [.ref (E.1 93), .ref (E.1 94)]) (rest := []) (c_X12_lays l E _ 93 94 z_lit_Arr102_93 z_lit_Arr102_94 (by decide)) (va_cwS 2 hts (zgS zbw mlRX12_149 stX12_lays iniRX12 coX12_lays) rfl rfl rfl (by decide +kernel) ⟨Nat.le_of_ble_eq_true rfl, Nat.le_of_ble_eq_true rfl⟩) rfl hl.1 rfl (Nat.le_of_ble_eq_true rfl) dX12_lots_85 ⟨Nat.zero_le _, Nat.zero_le _⟩ (fun G2 H locs hw2 hP hS => ?_)
                obtain ⟨hF2, hcp2⟩ := hw2
                refine lv_iconst (v := (0 : Int32)) hx hb dX12_lots_88 (by decide) ?_
                refine lv_istore (lv' := [(7, .int (0 : Int32)), (0, .ref (E.1 92)), (1, .int (nI kn)), (2, .int z), (3, .int (nI wh)), (4, .int al), (5, .int fo), (6, .int (nI t))]) hx hb dX12_lots_89 hl (by decide) rfl (fun ls hl => ?_)
                have cut_91 : ∀ (fuel : Nat), ∀ (c : Nat) (Gd : zG) (H : Heap) (locs : List Loc) (ls : Array Slot), (c ≤ na) → (∀ k, (k < 92 ∨ k = 93 ∨ (95 ≤ k ∧ k ≤ 99) ∨ 102 < k) → Gd k = G k) → (∀ x, x < 13 → Gd 92 x = G 92 x) → (∀ j, j < 102 → Gd 94 j = l_all r n (sd z (t * (na * n))) c 0 j) → (Gd 92 20 = sd (sd z (t * (na * n))) (c * n)) → zP E Gd H → va_S (zA E s_.heap.size) s_.heap H locs → lv_has ls 10 [(0, .ref (E.1 92)), (1, .int (nI kn)), (2, .int z), (3, .int (nI wh)), (4, .int al), (5, .int fo), (6, .int (nI t)), (7, .int (nI c))] → na - c < fuel → W p_ l e_ ({ frames := 6, cells := 0, slots := 0, locals := 142 } : Room) s_ m_ a_ b_ me_ c_ H locs 0 0 Q_ (F0 m_ 91 ls []) := by
                  intro fuel
                  induction fuel with
                  | zero =>
                    intro c  Gd  H locs ls hcn hFd h92d hf hzd hP hS hl hfu
                    exact absurd hfu (Nat.not_lt_zero _)
                  | succ fuel ih_91 =>
                    intro c  Gd  H locs ls hcn hFd h92d hf hzd hP hS hl hfu_91
                    refine lv_iload hx hb dX12_lots_91 (lv_at hl 7 rfl) ?_
                    refine lv_aload_n hx hb dX12_lots_93 rfl (lv_at hl 0 rfl) ?_
                    refine z_get C0 hP (C := RX12) (T := TX12) (N := 21) (ci := 10) (index := 9) (k := 92) (ref := "WetSuitPedalsShoesModel") (zk_lt (rfl : zk 92 = 10) (by decide)) (zd_10 E (rfl : zk 92 = 10) _) rfl (zmi inU_12) 0 (by decide) (zm flRX12_9) rfl (v := .ref (E.1 93)) (rfl) dX12_lots_94 ?_
                    refine lv_iconst (v := (1 : Int32)) hx hb dX12_lots_97 (by decide) ?_
                    refine z_iald C0 hP (k := 93) (i := 1) (v := (nI na)) (rfl : zk 93 = 11) (Nat.lt_of_lt_of_eq (show 1 < 102 by decide) (rfl : zl 93 = 102).symm) rfl dX12_lots_98 ((congrFun ((hFd _ (by decide)).trans (hM)) _).trans (hrna)) ?_
                    refine z_N_ge hx hb (a := c) (b := na) (tgt := 145) dX12_lots_99 rfl rfl (by omega) (by omega) (by decide) (fun c_99 => ?_) (fun c_99 => ?_)
                    · skip
                      have e9 : c = na := by omega
                      rw [e9] at hf hzd
                      refine lv_aload_n hx hb dX12_lots_145 rfl (lv_at hl 0 rfl) ?_
                      refine lv_aload_n hx hb dX12_lots_146 rfl (lv_at hl 0 rfl) ?_
                      refine z_get C0 hP (C := RX12) (T := TX12) (N := 21) (ci := 10) (index := 13) (k := 92) (ref := "WetSuitPedalsShoesModel") (zk_lt (rfl : zk 92 = 10) (by decide)) (zd_10 E (rfl : zk 92 = 10) _) rfl (zmi inU_12) 1 (by decide) (zm flRX12_13) rfl (v := .ref (E.1 94)) (rfl) dX12_lots_147 ?_
                      refine lv_iconst (v := (0 : Int32)) hx hb dX12_lots_150 (by decide) ?_
                      refine z_Vi C0 hP hD hA hS (As := [.ref (E.1 94), .int (0 : Int32)]) (rest := []) (k := 92) (c_X12_finishOf l E _ 94 0 n z_lit_Arr102_94 (by omega) ((l_all_n0 hf hrn)) (by omega) (by omega)) (cwV 2 hts (zgV zbw mlRX12_156 imX12_finishOf seX12_finishOf iniRX12 coX12_finishOf) rfl rfl rfl (by decide +kernel) ⟨Nat.le_of_ble_eq_true rfl, Nat.le_of_ble_eq_true rfl⟩) (zk_lt (rfl : zk 92 = 10) (by decide)) (zd_10 E (rfl : zk 92 = 10) _) rfl rfl rfl hl.1 rfl (Nat.le_of_ble_eq_true rfl) dX12_lots_151 ⟨Nat.zero_le _, Nat.zero_le _⟩ (fun r3 G3 H locs hw3 hP hS => ?_)
                      obtain ⟨hr3, hF3, hrow3⟩ := hw3
                      have hr3 : l_fin r n (sd z (t * (na * n))) 0 = _ := (l_all_fin (a := 0) hf (by omega) hna hn10).symm.trans hr3
                      subst hr3
                      refine lv_istore (lv' := [(7, .int (l_fin r n (sd z (t * (na * n))) 0)), (0, .ref (E.1 92)), (1, .int (nI kn)), (2, .int z), (3, .int (nI wh)), (4, .int al), (5, .int fo), (6, .int (nI t))]) hx hb dX12_lots_154 hl (by decide) rfl (fun ls hl => ?_)
                      refine lv_iconst (v := (1 : Int32)) hx hb dX12_lots_156 (by decide) ?_
                      refine lv_istore (lv' := [(8, .int (1 : Int32)), (7, .int (l_fin r n (sd z (t * (na * n))) 0)), (0, .ref (E.1 92)), (1, .int (nI kn)), (2, .int z), (3, .int (nI wh)), (4, .int al), (5, .int fo), (6, .int (nI t))]) hx hb dX12_lots_157 hl (by decide) rfl (fun ls hl => ?_)
                      refine lv_iconst (v := (1 : Int32)) hx hb dX12_lots_159 (by decide) ?_
                      refine lv_istore (lv' := [(9, .int (1 : Int32)), (8, .int (1 : Int32)), (7, .int (l_fin r n (sd z (t * (na * n))) 0)), (0, .ref (E.1 92)), (1, .int (nI kn)), (2, .int z), (3, .int (nI wh)), (4, .int al), (5, .int fo), (6, .int (nI t))]) hx hb dX12_lots_160 hl (by decide) rfl (fun ls hl => ?_)
                      have cut_162 : ∀ (fuel : Nat), ∀ (b s : Nat) (Gf : zG) (H : Heap) (locs : List Loc) (ls : Array Slot), (1 ≤ b ∧ b ≤ na) → (∀ x, (x < 100 ∨ 102 < x) → Gf x = G3 x) → (s = s_all (l_ok r n (sd z (t * (na * n)))) b) → zP E Gf H → va_S (zA E s_.heap.size) s_.heap H locs → lv_has ls 10 [(0, .ref (E.1 92)), (1, .int (nI kn)), (2, .int z), (3, .int (nI wh)), (4, .int al), (5, .int fo), (6, .int (nI t)), (7, .int (l_fin r n (sd z (t * (na * n))) 0)), (8, .int (nI s)), (9, .int (nI b))] → na - b < fuel → W p_ l e_ ({ frames := 6, cells := 0, slots := 0, locals := 142 } : Room) s_ m_ a_ b_ me_ c_ H locs 0 0 Q_ (F0 m_ 162 ls []) := by
                        intro fuel
                        induction fuel with
                        | zero =>
                          intro b s  Gf  H locs ls hb1 hFf hs hP hS hl hfu
                          exact absurd hfu (Nat.not_lt_zero _)
                        | succ fuel ih_162 =>
                          intro b s  Gf  H locs ls hb1 hFf hs hP hS hl hfu_162
                          refine lv_iload hx hb dX12_lots_162 (lv_at hl 9 rfl) ?_
                          refine lv_aload_n hx hb dX12_lots_164 rfl (lv_at hl 0 rfl) ?_
                          refine z_get C0 hP (C := RX12) (T := TX12) (N := 21) (ci := 10) (index := 9) (k := 92) (ref := "WetSuitPedalsShoesModel") (zk_lt (rfl : zk 92 = 10) (by decide)) (zd_10 E (rfl : zk 92 = 10) _) rfl (zmi inU_12) 0 (by decide) (zm flRX12_9) rfl (v := .ref (E.1 93)) (rfl) dX12_lots_165 ?_
                          refine lv_iconst (v := (1 : Int32)) hx hb dX12_lots_168 (by decide) ?_
                          refine z_iald C0 hP (k := 93) (i := 1) (v := (nI na)) (rfl : zk 93 = 11) (Nat.lt_of_lt_of_eq (show 1 < 102 by decide) (rfl : zl 93 = 102).symm) rfl dX12_lots_169 ((congrFun ((hFf _ (by decide)).trans ((hF3 _ (by decide)).trans ((hFd _ (by decide)).trans (hM)))) _).trans (hrna)) ?_
                          refine z_N_ge hx hb (a := b) (b := na) (tgt := 204) dX12_lots_170 rfl rfl (by omega) (by omega) (by decide) (fun c_170 => ?_) (fun c_170 => ?_)
                          · skip
                            have e8 : b = na := by omega
                            rw [e8] at hs
                            refine lv_iload hx hb dX12_lots_204 (lv_at hl 4 rfl) ?_
                            refine lv_iload hx hb dX12_lots_206 (lv_at hl 7 rfl) ?_
                            refine lv_iadd hx hb dX12_lots_208 ?_
                            refine lv_istore (lv' := [(4, .int (al + (l_fin r n (sd z (t * (na * n))) 0))), (0, .ref (E.1 92)), (1, .int (nI kn)), (2, .int z), (3, .int (nI wh)), (5, .int fo), (6, .int (nI t)), (7, .int (l_fin r n (sd z (t * (na * n))) 0)), (8, .int (nI s)), (9, .int (nI b))]) hx hb dX12_lots_209 hl (by decide) rfl (fun ls hl => ?_)
                            refine lv_iload hx hb dX12_lots_211 (lv_at hl 5 rfl) ?_
                            refine lv_iload hx hb dX12_lots_213 (lv_at hl 8 rfl) ?_
                            refine z_0_eq hx hb (a := s) (tgt := 222) dX12_lots_215 rfl (by (rw [hs]; exact Nat.lt_of_le_of_lt (s_all_le _ _) (by decide))) (by decide) (fun c_215 => ?_) (fun c_215 => ?_)
                            · skip
                              refine lv_iconst (v := (0 : Int32)) hx hb dX12_lots_222 (by decide) ?_
                              refine lv_iadd hx hb dX12_lots_223 ?_
                              refine lv_istore (lv' := [(5, .int (fo + (0 : Int32))), (4, .int (al + (l_fin r n (sd z (t * (na * n))) 0))), (0, .ref (E.1 92)), (1, .int (nI kn)), (2, .int z), (3, .int (nI wh)), (6, .int (nI t)), (7, .int (l_fin r n (sd z (t * (na * n))) 0)), (8, .int (nI s)), (9, .int (nI b))]) hx hb dX12_lots_224 hl (by decide) rfl (fun ls hl => ?_)
                              refine lv_iinc (v := (nI (t + 1))) (lv' := [(6, .int (nI (t + 1))), (5, .int (fo + (0 : Int32))), (4, .int (al + (l_fin r n (sd z (t * (na * n))) 0))), (0, .ref (E.1 92)), (1, .int (nI kn)), (2, .int z), (3, .int (nI wh)), (7, .int (l_fin r n (sd z (t * (na * n))) 0)), (8, .int (nI s)), (9, .int (nI b))]) hx hb dX12_lots_226 hl (k := 6) rfl (z_inc (by decide)) (by decide) rfl (fun ls hl => ?_)
                              refine lv_goto (tgt := 71) hx hb dX12_lots_229 (by decide) ?_
                              exact ih_71 (t + 1) (al + (l_fin r n (sd z (t * (na * n))) 0)) (fo + (0 : Int32)) Gf _ _ _ (by first | assumption | omega) (by exact fun k hk => (hFf k (by omega)).trans ((hF3 k (by omega)).trans (hFd k (by omega)))) (by exact fun x hx => (congrFun ((hFf _ (by decide)).trans (hF3 _ (by decide))) x).trans (h92d x hx)) (by exact l_tot_st hal (l_one_f rfl)) (by exact l_tot_st hfo (by first | exact l_one_1 (by decide) (fun q => c_215 (hs.trans q)) | exact l_one_0 (by decide) (hs.symm.trans c_215))) (by exact ((congrFun ((hFf _ (by decide)).trans (hF3 _ (by decide))) _).trans (hzd)).trans (by rw [sd_add, Nat.succ_mul])) hP hS (lv_sub hl [3, 4, 5, 6, 2, 1, 0] rfl) (by omega)
                            · skip
                              refine lv_iconst (v := (1 : Int32)) hx hb dX12_lots_218 (by decide) ?_
                              refine lv_goto (tgt := 223) hx hb dX12_lots_219 (by decide) ?_
                              refine lv_iadd hx hb dX12_lots_223 ?_
                              refine lv_istore (lv' := [(5, .int (fo + (1 : Int32))), (4, .int (al + (l_fin r n (sd z (t * (na * n))) 0))), (0, .ref (E.1 92)), (1, .int (nI kn)), (2, .int z), (3, .int (nI wh)), (6, .int (nI t)), (7, .int (l_fin r n (sd z (t * (na * n))) 0)), (8, .int (nI s)), (9, .int (nI b))]) hx hb dX12_lots_224 hl (by decide) rfl (fun ls hl => ?_)
                              refine lv_iinc (v := (nI (t + 1))) (lv' := [(6, .int (nI (t + 1))), (5, .int (fo + (1 : Int32))), (4, .int (al + (l_fin r n (sd z (t * (na * n))) 0))), (0, .ref (E.1 92)), (1, .int (nI kn)), (2, .int z), (3, .int (nI wh)), (7, .int (l_fin r n (sd z (t * (na * n))) 0)), (8, .int (nI s)), (9, .int (nI b))]) hx hb dX12_lots_226 hl (k := 6) rfl (z_inc (by decide)) (by decide) rfl (fun ls hl => ?_)
                              refine lv_goto (tgt := 71) hx hb dX12_lots_229 (by decide) ?_
                              exact ih_71 (t + 1) (al + (l_fin r n (sd z (t * (na * n))) 0)) (fo + (1 : Int32)) Gf _ _ _ (by first | assumption | omega) (by exact fun k hk => (hFf k (by omega)).trans ((hF3 k (by omega)).trans (hFd k (by omega)))) (by exact fun x hx => (congrFun ((hFf _ (by decide)).trans (hF3 _ (by decide))) x).trans (h92d x hx)) (by exact l_tot_st hal (l_one_f rfl)) (by exact l_tot_st hfo (by first | exact l_one_1 (by decide) (fun q => c_215 (hs.trans q)) | exact l_one_0 (by decide) (hs.symm.trans c_215))) (by exact ((congrFun ((hFf _ (by decide)).trans (hF3 _ (by decide))) _).trans (hzd)).trans (by rw [sd_add, Nat.succ_mul])) hP hS (lv_sub hl [3, 4, 5, 6, 2, 1, 0] rfl) (by omega)
                          · skip
                            refine lv_iload hx hb dX12_lots_173 (lv_at hl 8 rfl) ?_
                            refine lv_aload_n hx hb dX12_lots_175 rfl (lv_at hl 0 rfl) ?_
                            refine lv_aload_n hx hb dX12_lots_176 rfl (lv_at hl 0 rfl) ?_
                            refine z_get C0 hP (C := RX12) (T := TX12) (N := 21) (ci := 10) (index := 13) (k := 92) (ref := "WetSuitPedalsShoesModel") (zk_lt (rfl : zk 92 = 10) (by decide)) (zd_10 E (rfl : zk 92 = 10) _) rfl (zmi inU_12) 1 (by decide) (zm flRX12_13) rfl (v := .ref (E.1 94)) (rfl) dX12_lots_177 ?_
                            refine lv_iload hx hb dX12_lots_180 (lv_at hl 9 rfl) ?_
                            refine z_Vi C0 hP hD hA hS (As := [.ref (E.1 94), .int (nI b)]) (rest := [.int (nI s)]) (k := 92) (c_X12_finishOf l E _ 94 b n z_lit_Arr102_94 (by omega) ((congrFun ((hFf _ (by decide)).trans (hF3 _ (by decide))) _).trans ((l_all_n0 hf hrn))) (by omega) (by omega)) (cwV 2 hts (zgV zbw mlRX12_156 imX12_finishOf seX12_finishOf iniRX12 coX12_finishOf) rfl rfl rfl (by decide +kernel) ⟨Nat.le_of_ble_eq_true rfl, Nat.le_of_ble_eq_true rfl⟩) (zk_lt (rfl : zk 92 = 10) (by decide)) (zd_10 E (rfl : zk 92 = 10) _) rfl rfl rfl hl.1 rfl (Nat.le_of_ble_eq_true rfl) dX12_lots_182 ⟨Nat.zero_le _, Nat.zero_le _⟩ (fun r4 G4 H locs hw4 hP hS => ?_)
                            obtain ⟨hr4, hF4, hrow4⟩ := hw4
                            rw [show Gf 94 = Gd 94 from (hFf _ (by decide)).trans (hF3 _ (by decide))] at hr4
                            have hr4 : l_fin r n (sd z (t * (na * n))) b = _ := (l_all_fin (a := b) hf (by omega) hna hn10).symm.trans hr4
                            subst hr4
                            refine lv_iload hx hb dX12_lots_185 (lv_at hl 7 rfl) ?_
                            refine lv_icmp_lt (tgt := 194) hx hb dX12_lots_187 (by decide) (fun c_187 => ?_) (fun c_187 => ?_)
                            · skip
                              refine lv_iconst (v := (0 : Int32)) hx hb dX12_lots_194 (by decide) ?_
                              refine lv_iand hx hb dX12_lots_195 ?_
                              refine z_eqi (y := (0 : Int32)) (z_and0 _) ?_
                              refine lv_istore (lv' := [(8, .int (0 : Int32)), (0, .ref (E.1 92)), (1, .int (nI kn)), (2, .int z), (3, .int (nI wh)), (4, .int al), (5, .int fo), (6, .int (nI t)), (7, .int (l_fin r n (sd z (t * (na * n))) 0)), (9, .int (nI b))]) hx hb dX12_lots_196 hl (by decide) rfl (fun ls hl => ?_)
                              refine lv_iinc (v := (nI (b + 1))) (lv' := [(9, .int (nI (b + 1))), (8, .int (0 : Int32)), (0, .ref (E.1 92)), (1, .int (nI kn)), (2, .int z), (3, .int (nI wh)), (4, .int al), (5, .int fo), (6, .int (nI t)), (7, .int (l_fin r n (sd z (t * (na * n))) 0))]) hx hb dX12_lots_198 hl (k := 9) rfl (z_inc (by decide)) (by decide) rfl (fun ls hl => ?_)
                              refine lv_goto (tgt := 162) hx hb dX12_lots_201 (by decide) ?_
                              exact ih_162 (b + 1) 0 G4 _ _ _ (by omega) (by exact fun k hk => (hF4 k (by omega)).trans (hFf k hk)) (by exact (s_all_n (fun q => (of_decide_eq_true q).elim (by omega) (fun z => z c_187))).symm) hP hS (lv_sub hl [2, 3, 4, 5, 6, 7, 8, 9, 1, 0] rfl) (by omega)
                            · skip
                              refine lv_iconst (v := (1 : Int32)) hx hb dX12_lots_190 (by decide) ?_
                              refine lv_goto (tgt := 195) hx hb dX12_lots_191 (by decide) ?_
                              refine lv_iand hx hb dX12_lots_195 ?_
                              refine z_eqi (y := (nI s)) (z_and1 (by rw [hs]; exact s_all_le _ _)) ?_
                              refine lv_istore (lv' := [(8, .int (nI s)), (0, .ref (E.1 92)), (1, .int (nI kn)), (2, .int z), (3, .int (nI wh)), (4, .int al), (5, .int fo), (6, .int (nI t)), (7, .int (l_fin r n (sd z (t * (na * n))) 0)), (9, .int (nI b))]) hx hb dX12_lots_196 hl (by decide) rfl (fun ls hl => ?_)
                              refine lv_iinc (v := (nI (b + 1))) (lv' := [(9, .int (nI (b + 1))), (8, .int (nI s)), (0, .ref (E.1 92)), (1, .int (nI kn)), (2, .int z), (3, .int (nI wh)), (4, .int al), (5, .int fo), (6, .int (nI t)), (7, .int (l_fin r n (sd z (t * (na * n))) 0))]) hx hb dX12_lots_198 hl (k := 9) rfl (z_inc (by decide)) (by decide) rfl (fun ls hl => ?_)
                              refine lv_goto (tgt := 162) hx hb dX12_lots_201 (by decide) ?_
                              exact ih_162 (b + 1) s G4 _ _ _ (by omega) (by exact fun k hk => (hF4 k (by omega)).trans (hFf k hk)) (by rw [hs]; exact (s_all_y (decide_eq_true (Or.inr c_187))).symm) hP hS (lv_sub hl [2, 3, 4, 5, 6, 7, 8, 9, 1, 0] rfl) (by omega)
                      exact cut_162 (_ + 1) 1 1 G3 _ _ _ (by omega) (by exact fun _ _ => rfl) (by exact (s_all_y (p := l_ok r n (sd z (t * (na * n)))) (k := 0) (decide_eq_true (Or.inl rfl))).symm) hP hS (lv_sub hl [3, 4, 5, 6, 7, 8, 9, 2, 1, 0] rfl) (Nat.lt_succ_self _)
                    · skip
                      refine lv_iconst (v := (0 : Int32)) hx hb dX12_lots_102 (by decide) ?_
                      refine lv_istore (lv' := [(8, .int (0 : Int32)), (0, .ref (E.1 92)), (1, .int (nI kn)), (2, .int z), (3, .int (nI wh)), (4, .int al), (5, .int fo), (6, .int (nI t)), (7, .int (nI c))]) hx hb dX12_lots_103 hl (by decide) rfl (fun ls hl => ?_)
                      have cut_105 : ∀ (fuel : Nat), ∀ (i : Nat) (Ge : zG) (H : Heap) (locs : List Loc) (ls : Array Slot), (i ≤ n) → (∀ k, (k < 92 ∨ k = 93 ∨ (95 ≤ k ∧ k ≤ 99) ∨ 102 < k) → Ge k = G k) → (∀ x, x < 13 → Ge 92 x = G 92 x) → (∀ j, j < 102 → Ge 94 j = l_all r n (sd z (t * (na * n))) c i j) → (Ge 92 20 = sd (sd z (t * (na * n))) (c * n + i)) → zP E Ge H → va_S (zA E s_.heap.size) s_.heap H locs → lv_has ls 10 [(0, .ref (E.1 92)), (1, .int (nI kn)), (2, .int z), (3, .int (nI wh)), (4, .int al), (5, .int fo), (6, .int (nI t)), (7, .int (nI c)), (8, .int (nI i))] → n - i < fuel → W p_ l e_ ({ frames := 6, cells := 0, slots := 0, locals := 142 } : Room) s_ m_ a_ b_ me_ c_ H locs 0 0 Q_ (F0 m_ 105 ls []) := by
                        intro fuel
                        induction fuel with
                        | zero =>
                          intro i  Ge  H locs ls hin hFe h92e hfe hze hP hS hl hfu
                          exact absurd hfu (Nat.not_lt_zero _)
                        | succ fuel ih_105 =>
                          intro i  Ge  H locs ls hin hFe h92e hfe hze hP hS hl hfu_105
                          refine lv_iload hx hb dX12_lots_105 (lv_at hl 8 rfl) ?_
                          refine lv_aload_n hx hb dX12_lots_107 rfl (lv_at hl 0 rfl) ?_
                          refine z_get C0 hP (C := RX12) (T := TX12) (N := 21) (ci := 10) (index := 9) (k := 92) (ref := "WetSuitPedalsShoesModel") (zk_lt (rfl : zk 92 = 10) (by decide)) (zd_10 E (rfl : zk 92 = 10) _) rfl (zmi inU_12) 0 (by decide) (zm flRX12_9) rfl (v := .ref (E.1 93)) (rfl) dX12_lots_108 ?_
                          refine lv_iconst (v := (0 : Int32)) hx hb dX12_lots_111 (by decide) ?_
                          refine z_iald C0 hP (k := 93) (i := 0) (v := (nI n)) (rfl : zk 93 = 11) (Nat.lt_of_lt_of_eq (show 0 < 102 by decide) (rfl : zl 93 = 102).symm) rfl dX12_lots_112 ((congrFun ((hFe _ (by decide)).trans (hM)) _).trans (hrn)) ?_
                          refine z_N_ge hx hb (a := i) (b := n) (tgt := 139) dX12_lots_113 rfl rfl (by omega) (by omega) (by decide) (fun c_113 => ?_) (fun c_113 => ?_)
                          · skip
                            have e9 : i = n := by omega
                            rw [e9] at hfe hze
                            refine lv_iinc (v := (nI (c + 1))) (lv' := [(7, .int (nI (c + 1))), (0, .ref (E.1 92)), (1, .int (nI kn)), (2, .int z), (3, .int (nI wh)), (4, .int al), (5, .int fo), (6, .int (nI t)), (8, .int (nI i))]) hx hb dX12_lots_139 hl (k := 7) rfl (z_inc (by decide)) (by decide) rfl (fun ls hl => ?_)
                            refine lv_goto (tgt := 91) hx hb dX12_lots_142 (by decide) ?_
                            exact ih_91 (c + 1) Ge _ _ _ (by first | assumption | omega) (by exact fun k hk => hFe k (by omega)) (by exact fun x hx => (congrFun (rfl) x).trans (h92e x hx)) (by exact l_all_nx hfe) (by rw [Nat.succ_mul]; exact hze) hP hS (lv_sub hl [1, 2, 3, 4, 5, 6, 7, 0] rfl) (by omega)
                          · skip
                            refine lv_aload_n hx hb dX12_lots_116 rfl (lv_at hl 0 rfl) ?_
                            refine z_get C0 hP (C := RX12) (T := TX12) (N := 21) (ci := 10) (index := 13) (k := 92) (ref := "WetSuitPedalsShoesModel") (zk_lt (rfl : zk 92 = 10) (by decide)) (zd_10 E (rfl : zk 92 = 10) _) rfl (zmi inU_12) 1 (by decide) (zm flRX12_13) rfl (v := .ref (E.1 94)) (rfl) dX12_lots_117 ?_
                            refine lv_iload hx hb dX12_lots_120 (lv_at hl 7 rfl) ?_
                            refine lv_iload hx hb dX12_lots_122 (lv_at hl 8 rfl) ?_
                            refine z_Si C0 hP hD hA hS (As := [.int (nI c), .int (nI i)]) (rest := [.ref (E.1 94)]) (c_X12_tried l E _ c i) (va_cwS 2 hts (zgS zbw mlRX12_91 stX12_tried iniRX12 coX12_tried) rfl rfl rfl (by decide +kernel) ⟨Nat.le_of_ble_eq_true rfl, Nat.le_of_ble_eq_true rfl⟩) rfl hl.1 rfl (Nat.le_of_ble_eq_true rfl) dX12_lots_124 ⟨Nat.zero_le _, Nat.zero_le _⟩ (fun r5 G5 H locs hw5 hP hS => ?_)
                            obtain ⟨hr5, rfl⟩ := hw5
                            subst hr5
                            refine z_eqi (y := (nI (52 + 10 * c + i))) (congrArg nI (by omega)) ?_
                            refine lv_aload_n hx hb dX12_lots_127 rfl (lv_at hl 0 rfl) ?_
                            refine lv_iconst (v := (4 : Int32)) hx hb dX12_lots_128 (by decide) ?_
                            refine z_Vi C0 hP hD hA hS (As := [.int (4 : Int32)]) (rest := [.int (nI (52 + 10 * c + i)), .ref (E.1 94)]) (k := 92) (c_X12_drawn l E _ (sd (sd z (t * (na * n))) (c * n + i)) (hze)) (cwV 1 hts (zgV zbw mlRX12_201 imX12_drawn seX12_drawn iniRX12 coX12_drawn) rfl rfl rfl (by decide +kernel) ⟨Nat.le_of_ble_eq_true rfl, Nat.le_of_ble_eq_true rfl⟩) (zk_lt (rfl : zk 92 = 10) (by decide)) (zd_10 E (rfl : zk 92 = 10) _) rfl rfl rfl hl.1 rfl (Nat.le_of_ble_eq_true rfl) dX12_lots_129 ⟨Nat.zero_le _, Nat.zero_le _⟩ (fun r6 G6 H locs hw6 hP hS => ?_)
                            obtain ⟨hr6, hF6, hq6⟩ := hw6
                            have hr6 : dr4 (sd (sd z (t * (na * n))) (c * n + i + 1)) = _ := hr6
                            subst hr6
                            refine z_iast C0 hP hD hS (k := 94) (i := 52 + 10 * c + i) (v := (dr4 (sd (sd z (t * (na * n))) (c * n + i + 1)))) (F := Ge 94) (hF6 _ (by decide)) (rfl : zk 94 = 11) (Nat.lt_of_lt_of_eq (show 52 + 10 * c + i < 102 by omega) (rfl : zl 94 = 102).symm) rfl dX12_lots_132 (fun H locs hP hS => ?_)
                            refine lv_iinc (v := (nI (i + 1))) (lv' := [(8, .int (nI (i + 1))), (0, .ref (E.1 92)), (1, .int (nI kn)), (2, .int z), (3, .int (nI wh)), (4, .int al), (5, .int fo), (6, .int (nI t)), (7, .int (nI c))]) hx hb dX12_lots_133 hl (k := 8) rfl (z_inc (by decide)) (by decide) rfl (fun ls hl => ?_)
                            refine lv_goto (tgt := 105) hx hb dX12_lots_136 (by decide) ?_
                            exact ih_105 (i + 1) (g1 G6 94 (upd (Ge 94) (52 + 10 * c + i) (dr4 (sd (sd z (t * (na * n))) (c * n + i + 1))))) _ _ _ (by first | assumption | omega) (by exact fun k hk => (g1_n (by omega)).trans ((hF6 k (by omega)).trans (hFe k (by omega)))) (by exact fun x hx => (congrFun (g1_n (by decide)) x).trans ((congrFun hq6 x).trans ((pk_un (by omega)).trans (h92e x hx)))) (by intro j hj; exact (congrFun (g1_s _ _ _) j).trans (l_all_st (by omega) (by omega) hfe j hj)) (by exact (congrFun (g1_n (by decide)) _).trans ((congrFun hq6 20).trans pk_us)) hP hS (lv_sub hl [1, 2, 3, 4, 5, 6, 7, 8, 0] rfl) (by omega)
                      exact cut_105 (_ + 1) 0 Gd _ _ _ (by first | assumption | omega) (by exact fun k hk => hFd k (by omega)) (by exact h92d) (by exact hf) (by exact hzd) hP hS (lv_sub hl [1, 2, 3, 4, 5, 6, 7, 8, 0] rfl) (Nat.lt_succ_self _)
                exact cut_91 (_ + 1) 0 G2 _ _ _ (by first | assumption | omega) (by exact fun k hk => (hF2 k (by omega)).trans (hFc k (by omega))) (by exact fun x hx => (congrFun (hF2 _ (by decide)) x).trans (h92 x hx)) (by exact l_all_0 (fun j hj => (hcp2 j hj).trans (congrFun ((hFc _ (by decide)).trans (hM)) j))) (by rw [Nat.zero_mul]; exact (congrFun (hF2 _ (by decide)) _).trans (hz1)) hP hS (lv_sub hl [1, 2, 3, 4, 5, 6, 7, 0] rfl) (Nat.lt_succ_self _)
          exact cut_71 (_ + 1) 0 (0 : Int32) (0 : Int32) (g1 G 92 (upd (G 92) 20 z)) _ _ _ (by first | assumption | omega) (by exact fun k hk => g1_n (by omega)) (by exact fun x hx => (congrFun (g1_s _ _ _) x).trans (pk_un (by omega))) (by rfl) (by rfl) (by rw [Nat.zero_mul]; exact (congrFun (g1_s _ _ _) _).trans (pk_us)) hP hS (lv_sub hl [3, 4, 5, 6, 2, 1, 0] rfl) (Nat.lt_succ_self _)
        · skip
          refine lv_aload_n hx hb dX12_lots_50 rfl (lv_at hl 0 rfl) ?_
          refine lv_bipush (v := (-3 : Int32)) hx hb dX12_lots_51 (by decide) ?_
          refine z_Vi C0 hP hD hA hS (As := [.int (-3 : Int32)]) (rest := []) (k := 92) (c_X12_no l E _ (-3 : Int32) 3 (by decide) (by decide)) (cwV 1 hts (zgV zbw mlRX12_56 imX12_no seX12_no iniRX12 coX12_no) rfl rfl rfl (by decide +kernel) ⟨Nat.le_of_ble_eq_true rfl, Nat.le_of_ble_eq_true rfl⟩) (zk_lt (rfl : zk 92 = 10) (by decide)) (zd_10 E (rfl : zk 92 = 10) _) rfl rfl rfl hl.1 rfl (Nat.le_of_ble_eq_true rfl) dX12_lots_53 ⟨Nat.zero_le _, Nat.zero_le _⟩ (fun r7 G7 H locs hw7 hP hS => ?_)
          obtain ⟨rfl, rfl⟩ := hw7
          subst hQ_
          exact z_iret C0 hP hS (v := (-3 : Int32)) (by exact zQs_of (k := 3) (by simp [A_lots, d_2, d_15, hi3_1, hi4_1, hy_wh, c_47]) (fun k hk => g1_n (by omega)) (fun x hx => congrFun (g1_n (by decide)) x) (g1_s _ _ _)) dX12_lots_56
      · skip
        have hi5_1 := z_nin hi0_1
        refine lv_if_ne (tgt := 41) hx hb dX12_lots_31 (by decide) (fun h_ => absurd (by decide) h_) (fun _ => ?_)
        refine lv_aload_n hx hb dX12_lots_34 rfl (lv_at hl 0 rfl) ?_
        refine lv_bipush (v := (-2 : Int32)) hx hb dX12_lots_35 (by decide) ?_
        refine z_Vi C0 hP hD hA hS (As := [.int (-2 : Int32)]) (rest := []) (k := 92) (c_X12_no l E _ (-2 : Int32) 2 (by decide) (by decide)) (cwV 1 hts (zgV zbw mlRX12_56 imX12_no seX12_no iniRX12 coX12_no) rfl rfl rfl (by decide +kernel) ⟨Nat.le_of_ble_eq_true rfl, Nat.le_of_ble_eq_true rfl⟩) (zk_lt (rfl : zk 92 = 10) (by decide)) (zd_10 E (rfl : zk 92 = 10) _) rfl rfl rfl hl.1 rfl (Nat.le_of_ble_eq_true rfl) dX12_lots_37 ⟨Nat.zero_le _, Nat.zero_le _⟩ (fun r8 G8 H locs hw8 hP hS => ?_)
        obtain ⟨rfl, rfl⟩ := hw8
        subst hQ_
        exact z_iret C0 hP hS (v := (-2 : Int32)) (by exact zQs_of (k := 2) (by simp [A_lots, d_2, d_15, hi5_1]) (fun k hk => g1_n (by omega)) (fun x hx => congrFun (g1_n (by decide)) x) (g1_s _ _ _)) dX12_lots_40
    · skip
      have d_15 := Int32.not_le.mp c_15
      refine lv_aload_n hx hb dX12_lots_18 rfl (lv_at hl 0 rfl) ?_
      refine lv_bipush (v := (-6 : Int32)) hx hb dX12_lots_19 (by decide) ?_
      refine z_Vi C0 hP hD hA hS (As := [.int (-6 : Int32)]) (rest := []) (k := 92) (c_X12_no l E _ (-6 : Int32) 6 (by decide) (by decide)) (cwV 1 hts (zgV zbw mlRX12_56 imX12_no seX12_no iniRX12 coX12_no) rfl rfl rfl (by decide +kernel) ⟨Nat.le_of_ble_eq_true rfl, Nat.le_of_ble_eq_true rfl⟩) (zk_lt (rfl : zk 92 = 10) (by decide)) (zd_10 E (rfl : zk 92 = 10) _) rfl rfl rfl hl.1 rfl (Nat.le_of_ble_eq_true rfl) dX12_lots_21 ⟨Nat.zero_le _, Nat.zero_le _⟩ (fun r9 G9 H locs hw9 hP hS => ?_)
      obtain ⟨rfl, rfl⟩ := hw9
      subst hQ_
      exact z_iret C0 hP hS (v := (-6 : Int32)) (by exact zQs_of (k := 6) (by simp [A_lots, d_2, d_15]) (fun k hk => g1_n (by omega)) (fun x hx => congrFun (g1_n (by decide)) x) (g1_s _ _ _)) dX12_lots_24
  · skip
    have d_2 := Int32.not_le.mp c_2
    refine lv_aload_n hx hb dX12_lots_5 rfl (lv_at hl 0 rfl) ?_
    refine lv_bipush (v := (-4 : Int32)) hx hb dX12_lots_6 (by decide) ?_
    refine z_Vi C0 hP hD hA hS (As := [.int (-4 : Int32)]) (rest := []) (k := 92) (c_X12_no l E _ (-4 : Int32) 4 (by decide) (by decide)) (cwV 1 hts (zgV zbw mlRX12_56 imX12_no seX12_no iniRX12 coX12_no) rfl rfl rfl (by decide +kernel) ⟨Nat.le_of_ble_eq_true rfl, Nat.le_of_ble_eq_true rfl⟩) (zk_lt (rfl : zk 92 = 10) (by decide)) (zd_10 E (rfl : zk 92 = 10) _) rfl rfl rfl hl.1 rfl (Nat.le_of_ble_eq_true rfl) dX12_lots_8 ⟨Nat.zero_le _, Nat.zero_le _⟩ (fun r10 G10 H locs hw10 hP hS => ?_)
    obtain ⟨rfl, rfl⟩ := hw10
    subst hQ_
    exact z_iret C0 hP hS (v := (-4 : Int32)) (by exact zQs_of (k := 4) (by simp [A_lots, d_2]) (fun k hk => g1_n (by omega)) (fun x hx => congrFun (g1_n (by decide)) x) (g1_s _ _ _)) dX12_lots_11
