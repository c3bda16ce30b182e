/-! laid by wip/whole/vcg.py -/
theorem mlRX12_163 : Cond.methodLink RX12 163 yX12_findsPlans ∈ zU := zU_m 1019 (by decide +kernel) rfl
theorem coX12_findsPlans : Cond.code yX12_findsPlans cX12_findsPlans 6 none ∈ zU := zU_m 1022 (by decide +kernel) rfl
theorem imX12_findsPlans : Cond.instanceMethod yX12_findsPlans ∈ zU := zU_m 1021 (by decide +kernel) rfl
theorem seX12_findsPlans : Cond.selects RX12 yX12_findsPlans yX12_findsPlans ∈ zU := zU_m 39 (by decide +kernel) rfl
set_option maxHeartbeats 4000000 in
set_option maxRecDepth 100000 in
theorem c_X12_bestPlan (l : Launch) (E : zE) (G : zG) (r : Nat → Int32) (n na : Nat) (athlete sect : Int32) (hM : G 93 = r) (hrn : r 0 = nI n) (hrna : r 1 = nI na) (hn10 : n ≤ 10) (hna : na ≤ 5) (hkd : zKd r n) (hV : zVr r n na) : zMi l yX12_bestPlan wsX12_bestPlan ({ frames := 6, cells := 0, slots := 0, locals := 143 } : Room) E G [.ref (E.1 92), .int athlete, .int sect] (fun r1 G1 => zQm (A_plan r n na athlete sect) G r1 G1) := by
  refine zOf (cc := cX12_bestPlan) (nL := 6) (ret := (some .int)) RX12 (by decide) rfl rfl (Nat.le_of_ble_eq_true rfl) ?_
  intro p_ e_ s_ m_ a_ b_ me_ c_ ls C0 hP hS hl
  have hx := C0.1
  have hb := C0.2.1
  have hts := C0.2.2.2.2.1
  have hD : zD E (zA E s_.heap.size) := C0.2.2.2.2.2.2.2.2
  have hA : ∀ q : Nat, s_.heap.size ≤ q → zA E s_.heap.size q := fun q h => Or.inr h
  refine z_gen (fun Q_ hQ_ => ?_)
  have hl : lv_has ls 6 [(0, .ref (E.1 92)), (1, .int athlete), (2, .int sect)] := hl
  refine lv_aload_n hx hb dX12_bestPlan_0 rfl (lv_at hl 0 rfl) ?_
  refine lv_iload_n hx hb dX12_bestPlan_1 rfl (lv_at hl 1 rfl) ?_
  refine z_Vi C0 hP hD hA hS (As := [.int athlete]) (rest := []) (k := 92) (c_X12_isAthlete l E _ na athlete ((congrFun (hM) _).trans (hrna)) (by omega)) (cwV 1 hts (zgV zbw mlRX12_136 imX12_isAthlete seX12_isAthlete iniRX12 coX12_isAthlete) rfl rfl rfl (by decide +kernel) ⟨Nat.le_of_ble_eq_true rfl, Nat.le_of_ble_eq_true rfl⟩) (zk_lt (rfl : zk 92 = 10) (by decide)) (zd_10 E (rfl : zk 92 = 10) _) rfl rfl rfl hl.1 rfl (Nat.le_of_ble_eq_true rfl) dX12_bestPlan_2 ⟨Nat.zero_le _, Nat.zero_le _⟩ (fun r1 G1 H locs hw1 hP hS => ?_)
  rcases hw1 with ⟨rfl, rfl, ia, hia, rfl⟩ | ⟨rfl, rfl, hno1⟩
  · skip
    have hz_ia := zin_t hia (by omega)
    have hy_ia : zix (nI ia) = ia := zix_n (by omega)
    refine lv_if_eq (tgt := 21) hx hb dX12_bestPlan_5 (by decide) (fun h_ => absurd h_ (by decide)) (fun _ => ?_)
    refine lv_iload_n hx hb dX12_bestPlan_8 rfl (lv_at hl 2 rfl) ?_
    refine lv_iconst (v := (-1 : Int32)) hx hb dX12_bestPlan_9 (by decide) ?_
    refine lv_icmp_eq (tgt := 27) hx hb dX12_bestPlan_10 (by decide) (fun c_10 => ?_) (fun c_10 => ?_)
    · skip
      have hs9 := c_10
      subst hs9
      refine lv_aload_n hx hb dX12_bestPlan_27 rfl (lv_at hl 0 rfl) ?_
      refine lv_iload_n hx hb dX12_bestPlan_28 rfl (lv_at hl 1 rfl) ?_
      refine z_Vv C0 hP hD hA hS (As := [.int (nI ia)]) (rest := []) (k := 92) (c_X12_findsPlans l E _ r n na ia (hM) hrn hrna hn10 hna hV.1 (hV.2 _ (by omega)) (by omega)) (cwV 1 hts (zgV zbw mlRX12_163 imX12_findsPlans seX12_findsPlans iniRX12 coX12_findsPlans) rfl rfl rfl (by decide +kernel) ⟨Nat.le_of_ble_eq_true rfl, Nat.le_of_ble_eq_true rfl⟩) (zk_lt (rfl : zk 92 = 10) (by decide)) (zd_10 E (rfl : zk 92 = 10) _) rfl rfl rfl hl.1 rfl (Nat.le_of_ble_eq_true rfl) dX12_bestPlan_29 ⟨Nat.zero_le _, Nat.zero_le _⟩ (fun G2 H locs hw2 hP hS => ?_)
      obtain ⟨hF2, hfp2⟩ := hw2
      have hqg := q_g_e (hV.2 ia (by omega))
      refine lv_aload_n hx hb dX12_bestPlan_32 rfl (lv_at hl 0 rfl) ?_
      refine z_get C0 hP (C := RX12) (T := TX12) (N := 21) (ci := 10) (index := 9) (k := 92) (ref := "WetSuitPedalsShoesModel") (zk_lt (rfl : zk 92 = 10) (by decide)) (zd_10 E (rfl : zk 92 = 10) _) rfl (zmi inU_12) 0 (by decide) (zm flRX12_9) rfl (v := .ref (E.1 93)) (rfl) dX12_bestPlan_33 ?_
      refine lv_iload_n hx hb dX12_bestPlan_36 rfl (lv_at hl 1 rfl) ?_
      refine lv_iconst (v := (3 : Int32)) hx hb dX12_bestPlan_37 (by decide) ?_
      refine z_Si C0 hP hD hA hS (As := [.int (nI ia), .int (3 : Int32)]) (rest := [.ref (E.1 93)]) (c_X12_athleteAt l E _ ia 3) (va_cwS 2 hts (zgS zbw mlRX12_70 stX12_athleteAt iniRX12 coX12_athleteAt) rfl rfl rfl (by decide +kernel) ⟨Nat.le_of_ble_eq_true rfl, Nat.le_of_ble_eq_true rfl⟩) rfl hl.1 rfl (Nat.le_of_ble_eq_true rfl) dX12_bestPlan_38 ⟨Nat.zero_le _, Nat.zero_le _⟩ (fun r3 G3 H locs hw3 hP hS => ?_)
      obtain ⟨hr3, rfl⟩ := hw3
      subst hr3
      refine z_eqi (y := (nI (35 + 4 * ia))) (congrArg nI (by omega)) ?_
      refine z_iald C0 hP (k := 93) (i := 35 + 4 * ia) (v := (nI (q_g r ia))) (rfl : zk 93 = 11) (Nat.lt_of_lt_of_eq (show 35 + 4 * ia < 102 by omega) (rfl : zl 93 = 102).symm) rfl dX12_bestPlan_41 ((congrFun ((hF2 _ (by decide)).trans (hM)) _).trans (hqg.1)) ?_
      refine lv_istore_n (lv' := [(3, .int (nI (q_g r ia))), (0, .ref (E.1 92)), (1, .int (nI ia)), (2, .int (-1 : Int32))]) hx hb dX12_bestPlan_42 rfl hl (by decide) rfl (fun ls hl => ?_)
      refine lv_iload_n hx hb dX12_bestPlan_43 rfl (lv_at hl 3 rfl) ?_
      refine lv_if_ge (tgt := 54) hx hb dX12_bestPlan_44 (by decide) (fun h_ => absurd h_ (by decide)) (fun _ => ?_)
      refine lv_aload_n hx hb dX12_bestPlan_47 rfl (lv_at hl 1 rfl) ?_
      refine z_get C0 hP (C := RX12) (T := TX12) (N := 21) (ci := 10) (index := 46) (k := 92) (ref := "WetSuitPedalsShoesModel") (zk_lt (rfl : zk 92 = 10) (by decide)) (zd_10 E (rfl : zk 92 = 10) _) rfl (zmi inU_12) 17 (by decide) (zm flRX12_46) rfl (v := .ref (E.1 105)) (rfl) dX12_bestPlan_48 ?_
      refine lv_iload_n hx hb dX12_bestPlan_51 rfl (lv_at hl 0 rfl) ?_
      refine z_iald C0 hP (k := 105) (i := q_g r ia) (v := (p_to r ia n n (q_g r ia))) (rfl : zk 105 = 11) (Nat.lt_of_lt_of_eq (show q_g r ia < 1100 by omega) (rfl : zl 105 = 1100).symm) rfl dX12_bestPlan_52 ((congrArg (G2 105) (show q_g r ia = 0 * 100 + q_g r ia by omega)).trans (hfp2 0 (Nat.zero_le _) _ hqg.2)) ?_
      subst hQ_
      exact z_iret C0 hP hS (v := (p_to r ia n n (q_g r ia))) (by exact zQm_of (k := 0) (by simp [A_plan, hz_ia, hy_ia, c_10]) (fun k hk => hF2 k (by omega)) (hF2 _ (by decide))) dX12_bestPlan_53
    · skip
      refine lv_aload_n hx hb dX12_bestPlan_13 rfl (lv_at hl 0 rfl) ?_
      refine lv_iload_n hx hb dX12_bestPlan_14 rfl (lv_at hl 2 rfl) ?_
      refine z_Vi C0 hP hD hA hS (As := [.int sect]) (rest := []) (k := 92) (c_X12_isSection l E _ n sect ((congrFun (hM) _).trans (hrn)) (by omega)) (cwV 1 hts (zgV zbw mlRX12_139 imX12_isSection seX12_isSection iniRX12 coX12_isSection) rfl rfl rfl (by decide +kernel) ⟨Nat.le_of_ble_eq_true rfl, Nat.le_of_ble_eq_true rfl⟩) (zk_lt (rfl : zk 92 = 10) (by decide)) (zd_10 E (rfl : zk 92 = 10) _) rfl rfl rfl hl.1 rfl (Nat.le_of_ble_eq_true rfl) dX12_bestPlan_15 ⟨Nat.zero_le _, Nat.zero_le _⟩ (fun r4 G4 H locs hw4 hP hS => ?_)
      rcases hw4 with ⟨rfl, rfl, is, his, rfl⟩ | ⟨rfl, rfl, hno4⟩
      · skip
        have hz_is := zin_t his (by omega)
        have hy_is : zix (nI is) = is := zix_n (by omega)
        refine lv_if_ne (tgt := 27) hx hb dX12_bestPlan_18 (by decide) (fun _ => ?_) (fun h_ => absurd h_ (by decide))
        refine lv_aload_n hx hb dX12_bestPlan_27 rfl (lv_at hl 0 rfl) ?_
        refine lv_iload_n hx hb dX12_bestPlan_28 rfl (lv_at hl 1 rfl) ?_
        refine z_Vv C0 hP hD hA hS (As := [.int (nI ia)]) (rest := []) (k := 92) (c_X12_findsPlans l E _ r n na ia (hM) hrn hrna hn10 hna hV.1 (hV.2 _ (by omega)) (by omega)) (cwV 1 hts (zgV zbw mlRX12_163 imX12_findsPlans seX12_findsPlans iniRX12 coX12_findsPlans) rfl rfl rfl (by decide +kernel) ⟨Nat.le_of_ble_eq_true rfl, Nat.le_of_ble_eq_true rfl⟩) (zk_lt (rfl : zk 92 = 10) (by decide)) (zd_10 E (rfl : zk 92 = 10) _) rfl rfl rfl hl.1 rfl (Nat.le_of_ble_eq_true rfl) dX12_bestPlan_29 ⟨Nat.zero_le _, Nat.zero_le _⟩ (fun G5 H locs hw5 hP hS => ?_)
        obtain ⟨hF5, hfp5⟩ := hw5
        have hqg := q_g_e (hV.2 ia (by omega))
        refine lv_aload_n hx hb dX12_bestPlan_32 rfl (lv_at hl 0 rfl) ?_
        refine z_get C0 hP (C := RX12) (T := TX12) (N := 21) (ci := 10) (index := 9) (k := 92) (ref := "WetSuitPedalsShoesModel") (zk_lt (rfl : zk 92 = 10) (by decide)) (zd_10 E (rfl : zk 92 = 10) _) rfl (zmi inU_12) 0 (by decide) (zm flRX12_9) rfl (v := .ref (E.1 93)) (rfl) dX12_bestPlan_33 ?_
        refine lv_iload_n hx hb dX12_bestPlan_36 rfl (lv_at hl 1 rfl) ?_
        refine lv_iconst (v := (3 : Int32)) hx hb dX12_bestPlan_37 (by decide) ?_
        refine z_Si C0 hP hD hA hS (As := [.int (nI ia), .int (3 : Int32)]) (rest := [.ref (E.1 93)]) (c_X12_athleteAt l E _ ia 3) (va_cwS 2 hts (zgS zbw mlRX12_70 stX12_athleteAt iniRX12 coX12_athleteAt) rfl rfl rfl (by decide +kernel) ⟨Nat.le_of_ble_eq_true rfl, Nat.le_of_ble_eq_true rfl⟩) rfl hl.1 rfl (Nat.le_of_ble_eq_true rfl) dX12_bestPlan_38 ⟨Nat.zero_le _, Nat.zero_le _⟩ (fun r6 G6 H locs hw6 hP hS => ?_)
        obtain ⟨hr6, rfl⟩ := hw6
        subst hr6
        refine z_eqi (y := (nI (35 + 4 * ia))) (congrArg nI (by omega)) ?_
        refine z_iald C0 hP (k := 93) (i := 35 + 4 * ia) (v := (nI (q_g r ia))) (rfl : zk 93 = 11) (Nat.lt_of_lt_of_eq (show 35 + 4 * ia < 102 by omega) (rfl : zl 93 = 102).symm) rfl dX12_bestPlan_41 ((congrFun ((hF5 _ (by decide)).trans (hM)) _).trans (hqg.1)) ?_
        refine lv_istore_n (lv' := [(3, .int (nI (q_g r ia))), (0, .ref (E.1 92)), (1, .int (nI ia)), (2, .int (nI is))]) hx hb dX12_bestPlan_42 rfl hl (by decide) rfl (fun ls hl => ?_)
        refine lv_iload_n hx hb dX12_bestPlan_43 rfl (lv_at hl 3 rfl) ?_
        refine z_0_ge hx hb (a := is) (tgt := 54) dX12_bestPlan_44 rfl (by omega) (by decide) (fun c_44 => ?_) (fun c_44 => ?_)
        · skip
          refine lv_iconst (v := (0 : Int32)) hx hb dX12_bestPlan_54 (by decide) ?_
          refine lv_istore (lv' := [(4, .int (0 : Int32)), (3, .int (nI (q_g r ia))), (0, .ref (E.1 92)), (1, .int (nI ia)), (2, .int (nI is))]) hx hb dX12_bestPlan_55 hl (by decide) rfl (fun ls hl => ?_)
          refine lv_iconst (v := (0 : Int32)) hx hb dX12_bestPlan_57 (by decide) ?_
          refine lv_istore (lv' := [(5, .int (0 : Int32)), (4, .int (0 : Int32)), (3, .int (nI (q_g r ia))), (0, .ref (E.1 92)), (1, .int (nI ia)), (2, .int (nI is))]) hx hb dX12_bestPlan_58 hl (by decide) rfl (fun ls hl => ?_)
          have cut_60 : ∀ (fuel : Nat), ∀ (j g t : Nat) (H : Heap) (locs : List Loc) (ls : Array Slot), (j ≤ is + 1) → (g = p_lg r ia n j) → (g < 100) → (∀ i, j = i + 1 → t = p_bt r ia n i) → zP E G5 H → va_S (zA E s_.heap.size) s_.heap H locs → lv_has ls 6 [(0, .ref (E.1 92)), (1, .int (nI ia)), (2, .int (nI is)), (3, .int (nI g)), (4, .int (nI t)), (5, .int (nI j))] → n + 1 - j < fuel → W p_ l e_ ({ frames := 6, cells := 0, slots := 0, locals := 143 } : Room) s_ m_ a_ b_ me_ c_ H locs 0 0 Q_ (F0 m_ 60 ls []) := by
            intro fuel
            induction fuel with
            | zero =>
              intro j g t  H locs ls hj hg hg9 ht hP hS hl hfu
              exact absurd hfu (Nat.not_lt_zero _)
            | succ fuel ih_60 =>
              intro j g t  H locs ls hj hg hg9 ht hP hS hl hfu_60
              refine lv_iload hx hb dX12_bestPlan_60 (lv_at hl 5 rfl) ?_
              refine lv_iload_n hx hb dX12_bestPlan_62 rfl (lv_at hl 2 rfl) ?_
              refine z_N_gt hx hb (a := j) (b := is) (tgt := 119) dX12_bestPlan_63 rfl rfl (by omega) (by omega) (by decide) (fun c_63 => ?_) (fun c_63 => ?_)
              · skip
                have e7 := (show p_bt r ia n is = t from (ht is (by omega)).symm)
                refine lv_iload hx hb dX12_bestPlan_119 (lv_at hl 4 rfl) ?_
                subst hQ_
                exact z_iret C0 hP hS (v := (nI t)) (by exact zQm_of (k := 0) (by simp [A_plan, hz_ia, hy_ia, c_10, hz_is, hy_is, c_44, c_63, e7]) (fun k hk => hF5 k (by omega)) (hF5 _ (by decide))) dX12_bestPlan_121
              · skip
                refine lv_iconst (v := (0 : Int32)) hx hb dX12_bestPlan_66 (by decide) ?_
                refine lv_istore (lv' := [(4, .int (0 : Int32)), (0, .ref (E.1 92)), (1, .int (nI ia)), (2, .int (nI is)), (3, .int (nI g)), (5, .int (nI j))]) hx hb dX12_bestPlan_67 hl (by decide) rfl (fun ls hl => ?_)
                have cut_69 : ∀ (fuel : Nat), ∀ (t : Nat) (H : Heap) (locs : List Loc) (ls : Array Slot), (t ≤ s_arg (p_with r ia j (p_to r ia n (n - (j + 1))) g) 3) → zP E G5 H → va_S (zA E s_.heap.size) s_.heap H locs → lv_has ls 6 [(0, .ref (E.1 92)), (1, .int (nI ia)), (2, .int (nI is)), (3, .int (nI g)), (4, .int (nI t)), (5, .int (nI j))] → 4 - t < fuel → W p_ l e_ ({ frames := 6, cells := 0, slots := 0, locals := 143 } : Room) s_ m_ a_ b_ me_ c_ H locs 0 0 Q_ (F0 m_ 69 ls []) := by
                  intro fuel
                  induction fuel with
                  | zero =>
                    intro t  H locs ls ht2 hP hS hl hfu
                    exact absurd hfu (Nat.not_lt_zero _)
                  | succ fuel ih_69 =>
                    intro t  H locs ls ht2 hP hS hl hfu_69
                    have hl3 := s_arg_le (p_with r ia j (p_to r ia n (n - (j + 1))) g) 3
                    refine lv_aload_n hx hb dX12_bestPlan_69 rfl (lv_at hl 0 rfl) ?_
                    refine lv_iload_n hx hb dX12_bestPlan_70 rfl (lv_at hl 1 rfl) ?_
                    refine lv_iload hx hb dX12_bestPlan_71 (lv_at hl 5 rfl) ?_
                    refine lv_iload_n hx hb dX12_bestPlan_73 rfl (lv_at hl 3 rfl) ?_
                    refine lv_iload hx hb dX12_bestPlan_74 (lv_at hl 4 rfl) ?_
                    refine z_Vi C0 hP hD hA hS (As := [.int (nI ia), .int (nI j), .int (nI g), .int (nI t)]) (rest := []) (k := 92) (c_X12_withTries l E _ r n na ia j g t ((hF5 _ (by decide)).trans (hM)) hrn hrna hn10 hna hV.1 (by omega) (by omega) (by omega) (by omega)) (cwV 4 hts (zgV zbw mlRX12_159 imX12_withTries seX12_withTries iniRX12 coX12_withTries) rfl rfl rfl (by decide +kernel) ⟨Nat.le_of_ble_eq_true rfl, Nat.le_of_ble_eq_true rfl⟩) (zk_lt (rfl : zk 92 = 10) (by decide)) (zd_10 E (rfl : zk 92 = 10) _) rfl rfl rfl hl.1 rfl (Nat.le_of_ble_eq_true rfl) dX12_bestPlan_76 ⟨Nat.zero_le _, Nat.zero_le _⟩ (fun r7 G7 H locs hw7 hP hS => ?_)
                    obtain ⟨hr7, rfl⟩ := hw7
                    have hr7 : p_with r ia j (p_to r ia n (n - (j + 1))) g t = _ := (p_with_f (k := n - (j + 1)) (f := G5 105) hV.1 (by omega) (by omega) (by omega) (fun j _ h x hx => hfp5 j h x hx)).trans hr7
                    subst hr7
                    refine lv_aload_n hx hb dX12_bestPlan_79 rfl (lv_at hl 0 rfl) ?_
                    refine z_get C0 hP (C := RX12) (T := TX12) (N := 21) (ci := 10) (index := 46) (k := 92) (ref := "WetSuitPedalsShoesModel") (zk_lt (rfl : zk 92 = 10) (by decide)) (zd_10 E (rfl : zk 92 = 10) _) rfl (zmi inU_12) 17 (by decide) (zm flRX12_46) rfl (v := .ref (E.1 105)) (rfl) dX12_bestPlan_80 ?_
                    refine lv_iload hx hb dX12_bestPlan_83 (lv_at hl 5 rfl) ?_
                    refine lv_bipush (v := (100 : Int32)) hx hb dX12_bestPlan_85 (by decide) ?_
                    refine z_imul hx hb (a := j) (b := 100) (n := j * 100) dX12_bestPlan_87 rfl rfl rfl ?_
                    refine lv_iload_n hx hb dX12_bestPlan_88 rfl (lv_at hl 3 rfl) ?_
                    refine z_iadd hx hb (a := j * 100) (b := g) (n := (j * 100) + g) dX12_bestPlan_89 rfl rfl rfl ?_
                    refine z_iald C0 hP (k := 105) (i := (j * 100) + g) (v := (p_to r ia n (n - j) g)) (rfl : zk 105 = 11) (Nat.lt_of_lt_of_eq (show (j * 100) + g < 1100 by omega) (rfl : zl 105 = 1100).symm) rfl dX12_bestPlan_90 (hfp5 j (by omega) g (by omega)) ?_
                    refine lv_icmp_le (tgt := 100) hx hb dX12_bestPlan_91 (by decide) (fun c_91 => ?_) (fun c_91 => ?_)
                    · skip
                      have d_91 := Int32.not_lt.mpr c_91
                      rw [p_to_arg (by omega)] at d_91
                      have e9 := plan_hit ht2 d_91
                      refine lv_aload_n hx hb dX12_bestPlan_100 rfl (lv_at hl 0 rfl) ?_
                      refine z_get C0 hP (C := RX12) (T := TX12) (N := 21) (ci := 10) (index := 9) (k := 92) (ref := "WetSuitPedalsShoesModel") (zk_lt (rfl : zk 92 = 10) (by decide)) (zd_10 E (rfl : zk 92 = 10) _) rfl (zmi inU_12) 0 (by decide) (zm flRX12_9) rfl (v := .ref (E.1 93)) (rfl) dX12_bestPlan_101 ?_
                      refine lv_iload hx hb dX12_bestPlan_104 (lv_at hl 5 rfl) ?_
                      refine lv_iload_n hx hb dX12_bestPlan_106 rfl (lv_at hl 3 rfl) ?_
                      refine lv_iload hx hb dX12_bestPlan_107 (lv_at hl 4 rfl) ?_
                      refine z_Si C0 hP hD hA hS (As := [.ref (E.1 93), .int (nI j), .int (nI g), .int (nI t)]) (rest := []) (c_X12_legsBehind l E _ 93 j (nI g) (nI t) z_lit_Arr102_93 (by omega)) (va_cwS 4 hts (zgS zbw mlRX12_98 stX12_legsBehind iniRX12 coX12_legsBehind) rfl rfl rfl (by decide +kernel) ⟨Nat.le_of_ble_eq_true rfl, Nat.le_of_ble_eq_true rfl⟩) rfl hl.1 rfl (Nat.le_of_ble_eq_true rfl) dX12_bestPlan_109 ⟨Nat.zero_le _, Nat.zero_le _⟩ (fun r8 G8 H locs hw8 hP hS => ?_)
                      obtain ⟨hr8, rfl⟩ := hw8
                      have hr8 : m_leg (r (2 + 3 * j)) (r (4 + 3 * j)) (nI t) (nI g) = _ := (congrArg (fun z_ : Nat → Int32 => m_leg (z_ (2 + 3 * j)) (z_ (4 + 3 * j)) (nI t) (nI g)) (show G5 93 = r from (hF5 _ (by decide)).trans (hM))).symm.trans hr8
                      have hr8 : nI (p_leg r j g t) = _ := (p_leg_e hV.1 (show j < n by omega) (by omega) (by omega)).1.symm.trans hr8
                      have hp8 := (p_leg_e (v := t) hV.1 (show j < n by omega) (show g < 100 by omega) (by omega)).2
                      subst hr8
                      refine lv_istore_n (lv' := [(3, .int (nI (p_leg r j g t))), (0, .ref (E.1 92)), (1, .int (nI ia)), (2, .int (nI is)), (4, .int (nI t)), (5, .int (nI j))]) hx hb dX12_bestPlan_112 rfl hl (by decide) rfl (fun ls hl => ?_)
                      refine lv_iinc (v := (nI (j + 1))) (lv' := [(5, .int (nI (j + 1))), (3, .int (nI (p_leg r j g t))), (0, .ref (E.1 92)), (1, .int (nI ia)), (2, .int (nI is)), (4, .int (nI t))]) hx hb dX12_bestPlan_113 hl (k := 5) rfl (z_inc (by decide)) (by decide) rfl (fun ls hl => ?_)
                      refine lv_goto (tgt := 60) hx hb dX12_bestPlan_116 (by decide) ?_
                      exact ih_60 (j + 1) (p_leg r j g t) t _ _ _ (by first | assumption | omega) (by have e8 : p_lg r ia n (j + 1) = p_leg r j (p_lg r ia n j) (s_arg (p_with r ia j (p_to r ia n (n - (j + 1))) (p_lg r ia n j)) 3) := rfl; rw [e8, ← hg, ← e9]) (by exact hp8) (by intro i e; have e7 : i = j := (by omega); subst e7; exact e9.trans (by rw [hg]; rfl)) hP hS (lv_sub hl [2, 3, 4, 1, 5, 0] rfl) (by omega)
                    · skip
                      have d_91 := Int32.not_le.mp c_91
                      rw [p_to_arg (by omega)] at d_91
                      have e9 : t ≠ s_arg (p_with r ia j (p_to r ia n (n - (j + 1))) g) 3 := fun q => by rw [← q] at d_91; exact Int32.lt_irrefl d_91
                      refine lv_iinc (v := (nI (t + 1))) (lv' := [(4, .int (nI (t + 1))), (0, .ref (E.1 92)), (1, .int (nI ia)), (2, .int (nI is)), (3, .int (nI g)), (5, .int (nI j))]) hx hb dX12_bestPlan_94 hl (k := 4) rfl (z_inc (by decide)) (by decide) rfl (fun ls hl => ?_)
                      refine lv_goto (tgt := 69) hx hb dX12_bestPlan_97 (by decide) ?_
                      exact ih_69 (t + 1) _ _ _ (by first | assumption | omega) hP hS (lv_sub hl [1, 2, 3, 4, 0, 5] rfl) (by omega)
                exact cut_69 (_ + 1) 0 _ _ _ (by first | assumption | omega) hP hS (lv_sub hl [1, 2, 3, 4, 0, 5] rfl) (Nat.lt_succ_self _)
          exact cut_60 (_ + 1) 0 (q_g r ia) 0 _ _ _ (by first | assumption | omega) (by rfl) (by exact hqg.2) (by exact fun i e => absurd e (by omega)) hP hS (lv_sub hl [3, 4, 5, 2, 1, 0] rfl) (Nat.lt_succ_self _)
        · exact absurd c_44 (by omega)
      · skip
        have hz_is := zin_f (by omega) hno4
        refine lv_if_ne (tgt := 27) hx hb dX12_bestPlan_18 (by decide) (fun h_ => absurd (by decide) h_) (fun _ => ?_)
        refine lv_aload_n hx hb dX12_bestPlan_21 rfl (lv_at hl 0 rfl) ?_
        refine lv_iconst (v := (-1 : Int32)) hx hb dX12_bestPlan_22 (by decide) ?_
        refine z_Vi C0 hP hD hA hS (As := [.int (-1 : Int32)]) (rest := []) (k := 92) (c_X12_no l E _ (-1 : Int32) 1 (by decide) (by decide)) (cwV 1 hts (zgV zbw mlRX12_56 imX12_no seX12_no iniRX12 coX12_no) rfl rfl rfl (by decide +kernel) ⟨Nat.le_of_ble_eq_true rfl, Nat.le_of_ble_eq_true rfl⟩) (zk_lt (rfl : zk 92 = 10) (by decide)) (zd_10 E (rfl : zk 92 = 10) _) rfl rfl rfl hl.1 rfl (Nat.le_of_ble_eq_true rfl) dX12_bestPlan_23 ⟨Nat.zero_le _, Nat.zero_le _⟩ (fun r9 G9 H locs hw9 hP hS => ?_)
        obtain ⟨rfl, rfl⟩ := hw9
        subst hQ_
        exact z_iret C0 hP hS (v := (-1 : Int32)) (by exact zQm_of (k := 1) (by simp [A_plan, hz_ia, hy_ia, c_10, hz_is]) (fun k hk => g1_n (by omega)) (g1_s _ _ _)) dX12_bestPlan_26
  · skip
    have hz_ia := zin_f (by omega) hno1
    refine lv_if_eq (tgt := 21) hx hb dX12_bestPlan_5 (by decide) (fun _ => ?_) (fun h_ => absurd (by decide) h_)
    refine lv_aload_n hx hb dX12_bestPlan_21 rfl (lv_at hl 0 rfl) ?_
    refine lv_iconst (v := (-1 : Int32)) hx hb dX12_bestPlan_22 (by decide) ?_
    refine z_Vi C0 hP hD hA hS (As := [.int (-1 : Int32)]) (rest := []) (k := 92) (c_X12_no l E _ (-1 : Int32) 1 (by decide) (by decide)) (cwV 1 hts (zgV zbw mlRX12_56 imX12_no seX12_no iniRX12 coX12_no) rfl rfl rfl (by decide +kernel) ⟨Nat.le_of_ble_eq_true rfl, Nat.le_of_ble_eq_true rfl⟩) (zk_lt (rfl : zk 92 = 10) (by decide)) (zd_10 E (rfl : zk 92 = 10) _) rfl rfl rfl hl.1 rfl (Nat.le_of_ble_eq_true rfl) dX12_bestPlan_23 ⟨Nat.zero_le _, Nat.zero_le _⟩ (fun r10 G10 H locs hw10 hP hS => ?_)
    obtain ⟨rfl, rfl⟩ := hw10
    subst hQ_
    exact z_iret C0 hP hS (v := (-1 : Int32)) (by exact zQm_of (k := 1) (by simp [A_plan, hz_ia]) (fun k hk => g1_n (by omega)) (g1_s _ _ _)) dX12_bestPlan_26
