/-! laid by wip/whole/vcg.py -/
theorem mlRX7_69 : Cond.methodLink RX7 69 yX7_leastFinish ∈ zU := zU_m 567 (by decide +kernel) rfl
theorem coX7_leastFinish : Cond.code yX7_leastFinish cX7_leastFinish 3 (some .int) ∈ zU := zU_m 552 (by decide +kernel) rfl
theorem imX7_leastFinish : Cond.instanceMethod yX7_leastFinish ∈ zU := zU_m 550 (by decide +kernel) rfl
theorem seX7_leastFinish : Cond.selects RX7 yX7_leastFinish yX7_leastFinish ∈ zU := zU_m 551 (by decide +kernel) rfl
set_option maxHeartbeats 4000000 in
set_option maxRecDepth 100000 in
theorem c_X7_bestTries (l : Launch) (E : zE) (G : zG) (r : Nat → Int32) (a n : Nat) (s : Nat) (hn10 : n ≤ 10) (hVs : zVs r n) (hpn : zPn G r a n) (hVa : zVa r a) (hs : s < n) : zMi l yX7_bestTries wsX7_bestTries ({ frames := 5, cells := 0, slots := 0, locals := 115 } : Room) E G [.ref (E.1 70), .int (nI s)] (fun r1 G1 => (∀ k, (k < 75 ∨ 85 < k) → G1 k = G k) ∧ nI (p_bt r a n s) = r1) := by
  refine zOf (cc := cX7_bestTries) (nL := 4) (ret := (some .int)) RX7 (by decide) rfl rfl (Nat.le_of_ble_eq_true rfl) ?_
  intro p_ e_ s_ m_ a_ b_ me_ c_ ls C0 hP hS hl
  have hx := C0.1
  have hb := C0.2.1
  have hts := C0.2.2.2.2.1
  have hD : zD E (zA E s_.heap.size) := C0.2.2.2.2.2.2.2.2
  have hA : ∀ q : Nat, s_.heap.size ≤ q → zA E s_.heap.size q := fun q h => Or.inr h
  refine z_gen (fun Q_ hQ_ => ?_)
  have hl : lv_has ls 4 [(0, .ref (E.1 70)), (1, .int (nI s))] := hl
  refine lv_aload_n hx hb dX7_bestTries_0 rfl (lv_at hl 0 rfl) ?_
  refine z_Vi C0 hP hD hA hS (As := []) (rest := []) (k := 70) (c_X7_leastFinish l E _ r a n hn10 hVs hpn hVa) (cwV 0 hts (zgV zbw mlRX7_69 imX7_leastFinish seX7_leastFinish iniRX7 coX7_leastFinish) rfl rfl rfl (by decide +kernel) ⟨Nat.le_of_ble_eq_true rfl, Nat.le_of_ble_eq_true rfl⟩) (zk_lt (rfl : zk 70 = 5) (by decide)) (zd_5 E (rfl : zk 70 = 5) _) rfl rfl rfl hl.1 rfl (Nat.le_of_ble_eq_true rfl) dX7_bestTries_1 ⟨Nat.zero_le _, Nat.zero_le _⟩ (fun r1 G1 H locs hw1 hP hS => ?_)
  obtain ⟨hF1, hto1, hr1⟩ := hw1
  subst hr1
  refine lv_pop hx hb dX7_bestTries_4 rfl ?_
  refine lv_aload_n hx hb dX7_bestTries_5 rfl (lv_at hl 0 rfl) ?_
  refine z_get C0 hP (C := RX7) (T := TX7) (N := 8) (ci := 5) (index := 15) (k := 70) (ref := "WetSuitPedalsShoes$Planner") (zk_lt (rfl : zk 70 = 5) (by decide)) (zd_5 E (rfl : zk 70 = 5) _) rfl (zmi inU_7) 1 (by decide) (zm flRX7_15) rfl (v := .int (nI (q_g r a))) (congrArg (fun z => some (Value.int z)) ((congrFun (hF1 _ (by decide)) _).trans (hpn.2.1))) dX7_bestTries_6 ?_
  refine lv_istore_n (lv' := [(2, .int (nI (q_g r a))), (0, .ref (E.1 70)), (1, .int (nI s))]) hx hb dX7_bestTries_9 rfl hl (by decide) rfl (fun ls hl => ?_)
  refine lv_iconst (v := (0 : Int32)) hx hb dX7_bestTries_10 (by decide) ?_
  refine lv_istore_n (lv' := [(3, .int (0 : Int32)), (2, .int (nI (q_g r a))), (0, .ref (E.1 70)), (1, .int (nI s))]) hx hb dX7_bestTries_11 rfl hl (by decide) rfl (fun ls hl => ?_)
  have cut_12 : ∀ (fuel : Nat), ∀ (j g : Nat) (H : Heap) (locs : List Loc) (ls : Array Slot), (j ≤ s) → (g = p_lg r a n j) → (g < 100) → zP E G1 H → va_S (zA E s_.heap.size) s_.heap H locs → lv_has ls 4 [(0, .ref (E.1 70)), (1, .int (nI s)), (2, .int (nI g)), (3, .int (nI j))] → n - j < fuel → W p_ l e_ ({ frames := 5, cells := 0, slots := 0, locals := 115 } : Room) s_ m_ a_ b_ me_ c_ H locs 0 0 Q_ (F0 m_ 12 ls []) := by
    intro fuel
    induction fuel with
    | zero =>
      intro j g  H locs ls hj hg hg9 hP hS hl hfu
      exact absurd hfu (Nat.not_lt_zero _)
    | succ fuel ih_12 =>
      intro j g  H locs ls hj hg hg9 hP hS hl hfu_12
      refine lv_iload_n hx hb dX7_bestTries_12 rfl (lv_at hl 3 rfl) ?_
      refine lv_iload_n hx hb dX7_bestTries_13 rfl (lv_at hl 1 rfl) ?_
      refine z_N_ge hx hb (a := j) (b := s) (tgt := 54) dX7_bestTries_14 rfl rfl (by omega) (by omega) (by decide) (fun c_14 => ?_) (fun c_14 => ?_)
      · skip
        have e7 : j = s := (by omega)
        rw [e7] at hg
        refine lv_iload_n hx hb dX7_bestTries_54 rfl (lv_at hl 1 rfl) ?_
        refine z_0_lt hx hb (a := s) (tgt := 75) dX7_bestTries_55 rfl (by omega) (by decide) (fun c_55 => ?_) (fun c_55 => ?_)
        · exact absurd c_55 (by omega)
        · skip
          refine lv_iload_n hx hb dX7_bestTries_58 rfl (lv_at hl 1 rfl) ?_
          refine lv_aload_n hx hb dX7_bestTries_59 rfl (lv_at hl 0 rfl) ?_
          refine z_get C0 hP (C := RX7) (T := TX7) (N := 8) (ci := 5) (index := 9) (k := 70) (ref := "WetSuitPedalsShoes$Planner") (zk_lt (rfl : zk 70 = 5) (by decide)) (zd_5 E (rfl : zk 70 = 5) _) rfl (zmi inU_7) 0 (by decide) (zm flRX7_9) rfl (v := .int (nI n)) (congrArg (fun z => some (Value.int z)) ((congrFun (hF1 _ (by decide)) _).trans (hpn.1))) dX7_bestTries_60 ?_
          refine z_N_ge hx hb (a := s) (b := n) (tgt := 75) dX7_bestTries_63 rfl rfl (by omega) (by omega) (by decide) (fun c_63 => ?_) (fun c_63 => ?_)
          · exact absurd c_63 (by omega)
          · skip
            refine lv_aload_n hx hb dX7_bestTries_66 rfl (lv_at hl 0 rfl) ?_
            refine lv_iload_n hx hb dX7_bestTries_67 rfl (lv_at hl 1 rfl) ?_
            refine lv_iload_n hx hb dX7_bestTries_68 rfl (lv_at hl 2 rfl) ?_
            refine z_Vi C0 hP hD hA hS (As := [.int (nI s), .int (nI g)]) (rest := []) (k := 70) (c_X7_easiestBest l E _ r a n s g hn10 hVs (zPn_fr hpn hF1) (by omega) (by omega)) (cwV 2 hts (zgV zbw mlRX7_65 imX7_easiestBest seX7_easiestBest iniRX7 coX7_easiestBest) rfl rfl rfl (by decide +kernel) ⟨Nat.le_of_ble_eq_true rfl, Nat.le_of_ble_eq_true rfl⟩) (zk_lt (rfl : zk 70 = 5) (by decide)) (zd_5 E (rfl : zk 70 = 5) _) rfl rfl rfl hl.1 rfl (Nat.le_of_ble_eq_true rfl) dX7_bestTries_69 ⟨Nat.zero_le _, Nat.zero_le _⟩ (fun r2 G2 H locs hw2 hP hS => ?_)
            obtain ⟨hr2, rfl⟩ := hw2
            have hr2 : nI (s_arg (p_with r a s (p_to r a n (n - (s + 1))) g) 3) = _ := (congrArg nI (p_arg_T hVs (by omega) (by omega) (fun x hx => hto1 (s + 1) (by omega) x hx)).symm).trans hr2
            have hl3 := s_arg_le (p_with r a s (p_to r a n (n - (s + 1))) g) 3
            have hr2 : nI (p_bt r a n s) = _ := (congrArg nI (by rw [hg]; rfl : p_bt r a n s = s_arg (p_with r a s (p_to r a n (n - (s + 1))) g) 3)).trans hr2
            subst hr2
            refine lv_goto (tgt := 77) hx hb dX7_bestTries_72 (by decide) ?_
            subst hQ_
            exact z_iret C0 hP hS (v := (nI (p_bt r a n s))) (by exact ⟨hF1, rfl⟩) dX7_bestTries_77
      · skip
        refine lv_iload_n hx hb dX7_bestTries_17 rfl (lv_at hl 3 rfl) ?_
        refine lv_aload_n hx hb dX7_bestTries_18 rfl (lv_at hl 0 rfl) ?_
        refine z_get C0 hP (C := RX7) (T := TX7) (N := 8) (ci := 5) (index := 9) (k := 70) (ref := "WetSuitPedalsShoes$Planner") (zk_lt (rfl : zk 70 = 5) (by decide)) (zd_5 E (rfl : zk 70 = 5) _) rfl (zmi inU_7) 0 (by decide) (zm flRX7_9) rfl (v := .int (nI n)) (congrArg (fun z => some (Value.int z)) ((congrFun (hF1 _ (by decide)) _).trans (hpn.1))) dX7_bestTries_19 ?_
        refine z_N_ge hx hb (a := j) (b := n) (tgt := 54) dX7_bestTries_22 rfl rfl (by omega) (by omega) (by decide) (fun c_22 => ?_) (fun c_22 => ?_)
        · exact absurd c_22 (by omega)
        · skip
          refine lv_aload_n hx hb dX7_bestTries_25 rfl (lv_at hl 0 rfl) ?_
          refine z_get C0 hP (C := RX7) (T := TX7) (N := 8) (ci := 5) (index := 18) (k := 70) (ref := "WetSuitPedalsShoes$Planner") (zk_lt (rfl : zk 70 = 5) (by decide)) (zd_5 E (rfl : zk 70 = 5) _) rfl (zmi inU_7) 2 (by decide) (zm flRX7_18) rfl (v := .ref (E.1 71)) (rfl) dX7_bestTries_26 ?_
          refine lv_iload_n hx hb dX7_bestTries_29 rfl (lv_at hl 3 rfl) ?_
          refine z_iald C0 hP (k := 71) (i := j) (v := (r (2 + 3 * j))) (rfl : zk 71 = 11) (Nat.lt_of_lt_of_eq (show j < 10 by omega) (rfl : zl 71 = 10).symm) rfl dX7_bestTries_30 ((congrFun (hF1 _ (by decide)) _).trans ((hpn.2.2 j (by omega)).1)) ?_
          refine lv_aload_n hx hb dX7_bestTries_31 rfl (lv_at hl 0 rfl) ?_
          refine z_get C0 hP (C := RX7) (T := TX7) (N := 8) (ci := 5) (index := 22) (k := 70) (ref := "WetSuitPedalsShoes$Planner") (zk_lt (rfl : zk 70 = 5) (by decide)) (zd_5 E (rfl : zk 70 = 5) _) rfl (zmi inU_7) 3 (by decide) (zm flRX7_22) rfl (v := .ref (E.1 72)) (rfl) dX7_bestTries_32 ?_
          refine lv_iload_n hx hb dX7_bestTries_35 rfl (lv_at hl 3 rfl) ?_
          refine z_iald C0 hP (k := 72) (i := j) (v := (r (4 + 3 * j))) (rfl : zk 72 = 11) (Nat.lt_of_lt_of_eq (show j < 10 by omega) (rfl : zl 72 = 10).symm) rfl dX7_bestTries_36 ((congrFun (hF1 _ (by decide)) _).trans ((hpn.2.2 j (by omega)).2.1)) ?_
          refine lv_aload_n hx hb dX7_bestTries_37 rfl (lv_at hl 0 rfl) ?_
          refine lv_iload_n hx hb dX7_bestTries_38 rfl (lv_at hl 3 rfl) ?_
          refine lv_iload_n hx hb dX7_bestTries_39 rfl (lv_at hl 2 rfl) ?_
          refine z_Vi C0 hP hD hA hS (As := [.int (nI j), .int (nI g)]) (rest := [.int (r (4 + 3 * j)), .int (r (2 + 3 * j))]) (k := 70) (c_X7_easiestBest l E _ r a n j g hn10 hVs (zPn_fr hpn hF1) (by omega) (by omega)) (cwV 2 hts (zgV zbw mlRX7_65 imX7_easiestBest seX7_easiestBest iniRX7 coX7_easiestBest) rfl rfl rfl (by decide +kernel) ⟨Nat.le_of_ble_eq_true rfl, Nat.le_of_ble_eq_true rfl⟩) (zk_lt (rfl : zk 70 = 5) (by decide)) (zd_5 E (rfl : zk 70 = 5) _) rfl rfl rfl hl.1 rfl (Nat.le_of_ble_eq_true rfl) dX7_bestTries_40 ⟨Nat.zero_le _, Nat.zero_le _⟩ (fun r3 G3 H locs hw3 hP hS => ?_)
          obtain ⟨hr3, rfl⟩ := hw3
          have hr3 : nI (s_arg (p_with r a j (p_to r a n (n - (j + 1))) g) 3) = _ := (congrArg nI (p_arg_T hVs (by omega) (by omega) (fun x hx => hto1 (j + 1) (by omega) x hx)).symm).trans hr3
          have hl3 := s_arg_le (p_with r a j (p_to r a n (n - (j + 1))) g) 3
          subst hr3
          refine lv_iload_n hx hb dX7_bestTries_43 rfl (lv_at hl 2 rfl) ?_
          refine z_Si C0 hP hD hA hS (As := [.int (r (2 + 3 * j)), .int (r (4 + 3 * j)), .int (nI (s_arg (p_with r a j (p_to r a n (n - (j + 1))) g) 3)), .int (nI g)]) (rest := []) (c_X4_legsBehind l E _ (r (2 + 3 * j)) (r (4 + 3 * j)) (nI (s_arg (p_with r a j (p_to r a n (n - (j + 1))) g) 3)) (nI g)) (va_cwS 4 hts (zgS zbw mlRX7_52 stX4_legsBehind iniRX4 coX4_legsBehind) rfl rfl rfl (by decide +kernel) ⟨Nat.le_of_ble_eq_true rfl, Nat.le_of_ble_eq_true rfl⟩) rfl hl.1 rfl (Nat.le_of_ble_eq_true rfl) dX7_bestTries_44 ⟨Nat.zero_le _, Nat.zero_le _⟩ (fun r4 G4 H locs hw4 hP hS => ?_)
          obtain ⟨hr4, rfl⟩ := hw4
          have hp9 := p_leg_e (v := s_arg (p_with r a j (p_to r a n (n - (j + 1))) g) 3) hVs (show j < n by omega) (show g < 100 by omega) (by omega)
          have hr4 : nI (p_leg r j g (s_arg (p_with r a j (p_to r a n (n - (j + 1))) g) 3)) = _ := (hp9.1.symm.trans (m_leg_k hVs (show j < n by omega))).trans hr4
          have hp8 := hp9.2
          subst hr4
          refine lv_istore_n (lv' := [(2, .int (nI (p_leg r j g (s_arg (p_with r a j (p_to r a n (n - (j + 1))) g) 3)))), (0, .ref (E.1 70)), (1, .int (nI s)), (3, .int (nI j))]) hx hb dX7_bestTries_47 rfl hl (by decide) rfl (fun ls hl => ?_)
          refine lv_iinc (v := (nI (j + 1))) (lv' := [(3, .int (nI (j + 1))), (2, .int (nI (p_leg r j g (s_arg (p_with r a j (p_to r a n (n - (j + 1))) g) 3)))), (0, .ref (E.1 70)), (1, .int (nI s))]) hx hb dX7_bestTries_48 hl (k := 3) rfl (z_inc (by decide)) (by decide) rfl (fun ls hl => ?_)
          refine lv_goto (tgt := 12) hx hb dX7_bestTries_51 (by decide) ?_
          exact ih_12 (j + 1) (p_leg r j g (s_arg (p_with r a j (p_to r a n (n - (j + 1))) g) 3)) _ _ _ (by first | assumption | omega) (by have e8 : p_lg r a n (j + 1) = p_leg r j (p_lg r a n j) (s_arg (p_with r a j (p_to r a n (n - (j + 1))) (p_lg r a n j)) 3) := rfl; rw [e8, ← hg]) (by exact hp8) hP hS (lv_sub hl [2, 3, 1, 0] rfl) (by omega)
  exact cut_12 (_ + 1) 0 (q_g r a) _ _ _ (by first | assumption | omega) (by rfl) (by exact (q_g_e hVa).2) hP hS (lv_sub hl [2, 3, 1, 0] rfl) (Nat.lt_succ_self _)
