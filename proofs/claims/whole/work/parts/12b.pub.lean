/-! laid by wip/whole/vcg.py -/
theorem mlRX12_167 : Cond.methodLink RX12 167 yX12_noFar ∈ zU := zU_m 1044 (by decide +kernel) rfl
theorem coX12_noFar : Cond.code yX12_noFar cX12_noFar 2 (some .int) ∈ zU := zU_m 1047 (by decide +kernel) rfl
theorem imX12_noFar : Cond.instanceMethod yX12_noFar ∈ zU := zU_m 1046 (by decide +kernel) rfl
theorem seX12_noFar : Cond.selects RX12 yX12_noFar yX12_noFar ∈ zU := zU_m 41 (by decide +kernel) rfl
set_option maxHeartbeats 4000000 in
set_option maxRecDepth 100000 in
theorem c_X12_train (l : Launch) (E : zE) (G : zG) (r : Nat → Int32) (n na : Nat) (athlete what : Int32) (hM : G 93 = r) (hrn : r 0 = nI n) (hrna : r 1 = nI na) (hn10 : n ≤ 10) (hna : na ≤ 5) : zMi l yX12_train wsX12_train ({ frames := 7, cells := 0, slots := 0, locals := 165 } : Room) E G [.ref (E.1 92), .int athlete, .int what] (fun r1 G1 => zQm (A_train r n na athlete what) G r1 G1) := by
  refine zOf (cc := cX12_train) (nL := 5) (ret := (some .int)) RX12 (by decide) rfl rfl (Nat.le_of_ble_eq_true rfl) ?_
  intro p_ e_ s_ m_ a_ b_ me_ c_ ls C0 hP hS hl
  have hx := C0.1
  have hb := C0.2.1
  have hts := C0.2.2.2.2.1
  have hD : zD E (zA E s_.heap.size) := C0.2.2.2.2.2.2.2.2
  have hA : ∀ q : Nat, s_.heap.size ≤ q → zA E s_.heap.size q := fun q h => Or.inr h
  refine z_gen (fun Q_ hQ_ => ?_)
  have hl : lv_has ls 5 [(0, .ref (E.1 92)), (1, .int athlete), (2, .int what)] := hl
  refine lv_aload_n hx hb dX12_train_0 rfl (lv_at hl 0 rfl) ?_
  refine lv_iload_n hx hb dX12_train_1 rfl (lv_at hl 1 rfl) ?_
  refine z_Vi C0 hP hD hA hS (As := [.int athlete]) (rest := []) (k := 92) (c_X12_isAthlete l E _ na athlete ((congrFun (hM) _).trans (hrna)) (by omega)) (cwV 1 hts (zgV zbw mlRX12_136 imX12_isAthlete seX12_isAthlete iniRX12 coX12_isAthlete) rfl rfl rfl (by decide +kernel) ⟨Nat.le_of_ble_eq_true rfl, Nat.le_of_ble_eq_true rfl⟩) (zk_lt (rfl : zk 92 = 10) (by decide)) (zd_10 E (rfl : zk 92 = 10) _) rfl rfl rfl hl.1 rfl (Nat.le_of_ble_eq_true rfl) dX12_train_2 ⟨Nat.zero_le _, Nat.zero_le _⟩ (fun r1 G1 H locs hw1 hP hS => ?_)
  rcases hw1 with ⟨rfl, rfl, ia, hia, rfl⟩ | ⟨rfl, rfl, hno1⟩
  · skip
    have hz_ia := zin_t hia (by omega)
    have hy_ia : zix (nI ia) = ia := zix_n (by omega)
    refine lv_if_ne (tgt := 14) hx hb dX12_train_5 (by decide) (fun _ => ?_) (fun h_ => absurd h_ (by decide))
    refine lv_iload_n hx hb dX12_train_14 rfl (lv_at hl 2 rfl) ?_
    refine lv_iconst (v := (0 : Int32)) hx hb dX12_train_15 (by decide) ?_
    refine lv_iconst (v := (1 : Int32)) hx hb dX12_train_16 (by decide) ?_
    refine z_Si C0 hP hD hA hS (As := [.int what, .int (0 : Int32), .int (1 : Int32)]) (rest := []) (c_X12_isIn l E _ what (0 : Int32) (1 : Int32)) (va_cwS 3 hts (zgS zbw mlRX12_62 stX12_isIn iniRX12 coX12_isIn) rfl rfl rfl (by decide +kernel) ⟨Nat.le_of_ble_eq_true rfl, Nat.le_of_ble_eq_true rfl⟩) rfl hl.1 rfl (Nat.le_of_ble_eq_true rfl) dX12_train_17 ⟨Nat.zero_le _, Nat.zero_le _⟩ (fun r2 G2 H locs hw2 hP hS => ?_)
    rcases hw2 with ⟨rfl, rfl, hi1_2, hi2_2⟩ | ⟨rfl, rfl, hi0_2⟩
    · skip
      have hi3_2 := Int32.not_lt.mpr hi1_2
      have hi4_2 := Int32.not_lt.mpr hi2_2
      refine lv_if_ne (tgt := 30) hx hb dX12_train_20 (by decide) (fun _ => ?_) (fun h_ => absurd h_ (by decide))
      refine lv_iconst (v := (0 : Int32)) hx hb dX12_train_30 (by decide) ?_
      refine lv_istore_n (lv' := [(3, .int (0 : Int32)), (0, .ref (E.1 92)), (1, .int (nI ia)), (2, .int what)]) hx hb dX12_train_31 rfl hl (by decide) rfl (fun ls hl => ?_)
      refine lv_iconst (v := (1 : Int32)) hx hb dX12_train_32 (by decide) ?_
      refine lv_istore (lv' := [(4, .int (1 : Int32)), (3, .int (0 : Int32)), (0, .ref (E.1 92)), (1, .int (nI ia)), (2, .int what)]) hx hb dX12_train_33 hl (by decide) rfl (fun ls hl => ?_)
      have cut_35 : ∀ (fuel : Nat), ∀ (k m : Nat) (Gc : zG) (H : Heap) (locs : List Loc) (ls : Array Slot), (1 ≤ k ∧ k ≤ 3 ∧ m < k) → (m = s_arg (q_tr r n ia) (k - 1)) → (∀ k, (k < 94 ∨ (94 < k ∧ k < 100) ∨ 102 < k) → Gc k = G k) → zP E Gc H → va_S (zA E s_.heap.size) s_.heap H locs → lv_has ls 5 [(0, .ref (E.1 92)), (1, .int (nI ia)), (2, .int what), (3, .int (nI m)), (4, .int (nI k))] → 3 - k < fuel → W p_ l e_ ({ frames := 7, cells := 0, slots := 0, locals := 165 } : Room) s_ m_ a_ b_ me_ c_ H locs 0 0 Q_ (F0 m_ 35 ls []) := by
        intro fuel
        induction fuel with
        | zero =>
          intro k m  Gc  H locs ls hk1 hm hFc hP hS hl hfu
          exact absurd hfu (Nat.not_lt_zero _)
        | succ fuel ih_35 =>
          intro k m  Gc  H locs ls hk1 hm hFc hP hS hl hfu_35
          refine lv_iload hx hb dX12_train_35 (lv_at hl 4 rfl) ?_
          refine lv_iconst (v := (3 : Int32)) hx hb dX12_train_37 (by decide) ?_
          refine z_N_ge hx hb (a := k) (b := 3) (tgt := 68) dX12_train_38 rfl rfl (by omega) (by omega) (by decide) (fun c_38 => ?_) (fun c_38 => ?_)
          · skip
            have e9 : s_arg (q_tr r n ia) 2 = m := by rw [hm, show k - 1 = 2 by omega]
            have e7 := (show q_tr r n ia m = q_with r n ia m 1 from rfl)
            refine lv_iload_n hx hb dX12_train_68 rfl (lv_at hl 2 rfl) ?_
            refine lv_if_ne (tgt := 76) hx hb dX12_train_69 (by decide) (fun c_69 => ?_) (fun c_69 => ?_)
            · skip
              refine lv_aload_n hx hb dX12_train_76 rfl (lv_at hl 0 rfl) ?_
              refine lv_aload_n hx hb dX12_train_77 rfl (lv_at hl 0 rfl) ?_
              refine z_get C0 hP (C := RX12) (T := TX12) (N := 21) (ci := 10) (index := 9) (k := 92) (ref := "WetSuitPedalsShoesModel") (zk_lt (rfl : zk 92 = 10) (by decide)) (zd_10 E (rfl : zk 92 = 10) _) rfl (zmi inU_12) 0 (by decide) (zm flRX12_9) rfl (v := .ref (E.1 93)) (rfl) dX12_train_78 ?_
              refine lv_iload_n hx hb dX12_train_81 rfl (lv_at hl 1 rfl) ?_
              refine z_Vi C0 hP hD hA hS (As := [.ref (E.1 93), .int (nI ia)]) (rest := []) (k := 92) (c_X12_finishOf l E _ 93 ia n z_lit_Arr102_93 (by omega) ((congrFun ((hFc _ (by decide)).trans (hM)) _).trans (hrn)) (by omega) (by omega)) (cwV 2 hts (zgV zbw mlRX12_156 imX12_finishOf seX12_finishOf iniRX12 coX12_finishOf) rfl rfl rfl (by decide +kernel) ⟨Nat.le_of_ble_eq_true rfl, Nat.le_of_ble_eq_true rfl⟩) (zk_lt (rfl : zk 92 = 10) (by decide)) (zd_10 E (rfl : zk 92 = 10) _) rfl rfl rfl hl.1 rfl (Nat.le_of_ble_eq_true rfl) dX12_train_82 ⟨Nat.zero_le _, Nat.zero_le _⟩ (fun r3 G3 H locs hw3 hP hS => ?_)
              obtain ⟨hr3, hF3, hrow3⟩ := hw3
              rw [show Gc 93 = r from (hFc _ (by decide)).trans (hM)] at hr3 hrow3
              subst hr3
              refine lv_aload_n hx hb dX12_train_85 rfl (lv_at hl 0 rfl) ?_
              refine lv_iload_n hx hb dX12_train_86 rfl (lv_at hl 1 rfl) ?_
              refine lv_iload_n hx hb dX12_train_87 rfl (lv_at hl 3 rfl) ?_
              refine lv_iconst (v := (1 : Int32)) hx hb dX12_train_88 (by decide) ?_
              refine z_Vi C0 hP hD hA hS (As := [.int (nI ia), .int (nI m), .int (1 : Int32)]) (rest := [.int (q_fin r n ia)]) (k := 92) (c_X12_finishWith l E _ r n na ia m (1 : Int32) ((hF3 _ (by decide)).trans ((hFc _ (by decide)).trans (hM))) hrn hrna hn10 hna (by omega) (by omega)) (cwV 3 hts (zgV zbw mlRX12_170 imX12_finishWith seX12_finishWith iniRX12 coX12_finishWith) rfl rfl rfl (by decide +kernel) ⟨Nat.le_of_ble_eq_true rfl, Nat.le_of_ble_eq_true rfl⟩) (zk_lt (rfl : zk 92 = 10) (by decide)) (zd_10 E (rfl : zk 92 = 10) _) rfl rfl rfl hl.1 rfl (Nat.le_of_ble_eq_true rfl) dX12_train_89 ⟨Nat.zero_le _, Nat.zero_le _⟩ (fun r4 G4 H locs hw4 hP hS => ?_)
              obtain ⟨hr4, hF4⟩ := hw4
              subst hr4
              refine lv_isub hx hb dX12_train_92 ?_
              subst hQ_
              exact z_iret C0 hP hS (v := ((q_fin r n ia) - (q_with r n ia m (1 : Int32)))) (by exact zQm_of (k := 0) (by simp [A_train, hz_ia, hy_ia, hi3_2, hi4_2, c_38, e9, e7, c_69]) (fun k hk => (hF4 k (by omega)).trans ((hF3 k (by omega)).trans (hFc k (by omega)))) ((hF4 _ (by decide)).trans ((hF3 _ (by decide)).trans (hFc _ (by decide))))) dX12_train_93
            · skip
              refine lv_iload_n hx hb dX12_train_72 rfl (lv_at hl 3 rfl) ?_
              refine lv_goto (tgt := 93) hx hb dX12_train_73 (by decide) ?_
              subst hQ_
              exact z_iret C0 hP hS (v := (nI m)) (by exact zQm_of (k := 0) (by simp [A_train, hz_ia, hy_ia, hi3_2, hi4_2, c_38, e9, e7, c_69]) (fun k hk => hFc k (by omega)) (hFc _ (by decide))) dX12_train_93
          · skip
            refine lv_aload_n hx hb dX12_train_41 rfl (lv_at hl 0 rfl) ?_
            refine lv_iload_n hx hb dX12_train_42 rfl (lv_at hl 1 rfl) ?_
            refine lv_iload hx hb dX12_train_43 (lv_at hl 4 rfl) ?_
            refine lv_iconst (v := (1 : Int32)) hx hb dX12_train_45 (by decide) ?_
            refine z_Vi C0 hP hD hA hS (As := [.int (nI ia), .int (nI k), .int (1 : Int32)]) (rest := []) (k := 92) (c_X12_finishWith l E _ r n na ia k (1 : Int32) ((hFc _ (by decide)).trans (hM)) hrn hrna hn10 hna (by omega) (by omega)) (cwV 3 hts (zgV zbw mlRX12_170 imX12_finishWith seX12_finishWith iniRX12 coX12_finishWith) rfl rfl rfl (by decide +kernel) ⟨Nat.le_of_ble_eq_true rfl, Nat.le_of_ble_eq_true rfl⟩) (zk_lt (rfl : zk 92 = 10) (by decide)) (zd_10 E (rfl : zk 92 = 10) _) rfl rfl rfl hl.1 rfl (Nat.le_of_ble_eq_true rfl) dX12_train_46 ⟨Nat.zero_le _, Nat.zero_le _⟩ (fun r5 G5 H locs hw5 hP hS => ?_)
            obtain ⟨hr5, hF5⟩ := hw5
            subst hr5
            refine lv_aload_n hx hb dX12_train_49 rfl (lv_at hl 0 rfl) ?_
            refine lv_iload_n hx hb dX12_train_50 rfl (lv_at hl 1 rfl) ?_
            refine lv_iload_n hx hb dX12_train_51 rfl (lv_at hl 3 rfl) ?_
            refine lv_iconst (v := (1 : Int32)) hx hb dX12_train_52 (by decide) ?_
            refine z_Vi C0 hP hD hA hS (As := [.int (nI ia), .int (nI m), .int (1 : Int32)]) (rest := [.int (q_with r n ia k (1 : Int32))]) (k := 92) (c_X12_finishWith l E _ r n na ia m (1 : Int32) ((hF5 _ (by decide)).trans ((hFc _ (by decide)).trans (hM))) hrn hrna hn10 hna (by omega) (by omega)) (cwV 3 hts (zgV zbw mlRX12_170 imX12_finishWith seX12_finishWith iniRX12 coX12_finishWith) rfl rfl rfl (by decide +kernel) ⟨Nat.le_of_ble_eq_true rfl, Nat.le_of_ble_eq_true rfl⟩) (zk_lt (rfl : zk 92 = 10) (by decide)) (zd_10 E (rfl : zk 92 = 10) _) rfl rfl rfl hl.1 rfl (Nat.le_of_ble_eq_true rfl) dX12_train_53 ⟨Nat.zero_le _, Nat.zero_le _⟩ (fun r6 G6 H locs hw6 hP hS => ?_)
            obtain ⟨hr6, hF6⟩ := hw6
            subst hr6
            refine lv_icmp_ge (tgt := 62) hx hb dX12_train_56 (by decide) (fun c_56 => ?_) (fun c_56 => ?_)
            · skip
              have d_56 := Int32.not_lt.mpr c_56
              refine lv_iinc (v := (nI (k + 1))) (lv' := [(4, .int (nI (k + 1))), (0, .ref (E.1 92)), (1, .int (nI ia)), (2, .int what), (3, .int (nI m))]) hx hb dX12_train_62 hl (k := 4) rfl (z_inc (by decide)) (by decide) rfl (fun ls hl => ?_)
              refine lv_goto (tgt := 35) hx hb dX12_train_65 (by decide) ?_
              exact ih_35 (k + 1) m G6 _ _ _ (by omega) (by have e1 : k + 1 - 1 = (k - 1) + 1 := (by omega); have e2 : k - 1 + 1 = k := (by omega); rw [e1]; show m = if _ then _ else _; rw [e2, ← hm]; exact (if_neg d_56).symm) (by exact fun k hk => (hF6 k (by omega)).trans ((hF5 k (by omega)).trans (hFc k (by omega)))) hP hS (lv_sub hl [1, 2, 3, 4, 0] rfl) (by omega)
            · skip
              have d_56 := Int32.not_le.mp c_56
              refine lv_iload hx hb dX12_train_59 (lv_at hl 4 rfl) ?_
              refine lv_istore_n (lv' := [(3, .int (nI k)), (0, .ref (E.1 92)), (1, .int (nI ia)), (2, .int what), (4, .int (nI k))]) hx hb dX12_train_61 rfl hl (by decide) rfl (fun ls hl => ?_)
              refine lv_iinc (v := (nI (k + 1))) (lv' := [(4, .int (nI (k + 1))), (3, .int (nI k)), (0, .ref (E.1 92)), (1, .int (nI ia)), (2, .int what)]) hx hb dX12_train_62 hl (k := 4) rfl (z_inc (by decide)) (by decide) rfl (fun ls hl => ?_)
              refine lv_goto (tgt := 35) hx hb dX12_train_65 (by decide) ?_
              exact ih_35 (k + 1) k G6 _ _ _ (by omega) (by have e1 : k + 1 - 1 = (k - 1) + 1 := (by omega); have e2 : k - 1 + 1 = k := (by omega); rw [e1]; show k = if _ then _ else _; rw [e2, ← hm]; exact (if_pos d_56).symm) (by exact fun k hk => (hF6 k (by omega)).trans ((hF5 k (by omega)).trans (hFc k (by omega)))) hP hS (lv_sub hl [2, 3, 4, 1, 0] rfl) (by omega)
      exact cut_35 (_ + 1) 1 0 G _ _ _ (by omega) (by rfl) (by exact fun k hk => rfl) hP hS (lv_sub hl [2, 3, 4, 1, 0] rfl) (Nat.lt_succ_self _)
    · skip
      have hi5_2 := z_nin hi0_2
      refine lv_if_ne (tgt := 30) hx hb dX12_train_20 (by decide) (fun h_ => absurd (by decide) h_) (fun _ => ?_)
      refine lv_aload_n hx hb dX12_train_23 rfl (lv_at hl 0 rfl) ?_
      refine lv_bipush (v := (-2 : Int32)) hx hb dX12_train_24 (by decide) ?_
      refine z_Vi C0 hP hD hA hS (As := [.int (-2 : Int32)]) (rest := []) (k := 92) (c_X12_noFar l E _ (-2 : Int32) 2 (by decide) (by decide)) (cwV 1 hts (zgV zbw mlRX12_167 imX12_noFar seX12_noFar iniRX12 coX12_noFar) rfl rfl rfl (by decide +kernel) ⟨Nat.le_of_ble_eq_true rfl, Nat.le_of_ble_eq_true rfl⟩) (zk_lt (rfl : zk 92 = 10) (by decide)) (zd_10 E (rfl : zk 92 = 10) _) rfl rfl rfl hl.1 rfl (Nat.le_of_ble_eq_true rfl) dX12_train_26 ⟨Nat.zero_le _, Nat.zero_le _⟩ (fun r7 G7 H locs hw7 hP hS => ?_)
      obtain ⟨rfl, rfl⟩ := hw7
      subst hQ_
      exact z_iret C0 hP hS (v := (1000000000 - (-2 : Int32))) (by exact zQm_of (k := 2) (by simp [A_train, hz_ia, hy_ia, hi5_2]) (fun k hk => g1_n (by omega)) (g1_s _ _ _)) dX12_train_29
  · skip
    have hz_ia := zin_f (by omega) hno1
    refine lv_if_ne (tgt := 14) hx hb dX12_train_5 (by decide) (fun h_ => absurd (by decide) h_) (fun _ => ?_)
    refine lv_aload_n hx hb dX12_train_8 rfl (lv_at hl 0 rfl) ?_
    refine lv_iconst (v := (-1 : Int32)) hx hb dX12_train_9 (by decide) ?_
    refine z_Vi C0 hP hD hA hS (As := [.int (-1 : Int32)]) (rest := []) (k := 92) (c_X12_noFar l E _ (-1 : Int32) 1 (by decide) (by decide)) (cwV 1 hts (zgV zbw mlRX12_167 imX12_noFar seX12_noFar iniRX12 coX12_noFar) rfl rfl rfl (by decide +kernel) ⟨Nat.le_of_ble_eq_true rfl, Nat.le_of_ble_eq_true rfl⟩) (zk_lt (rfl : zk 92 = 10) (by decide)) (zd_10 E (rfl : zk 92 = 10) _) rfl rfl rfl hl.1 rfl (Nat.le_of_ble_eq_true rfl) dX12_train_10 ⟨Nat.zero_le _, Nat.zero_le _⟩ (fun r8 G8 H locs hw8 hP hS => ?_)
    obtain ⟨rfl, rfl⟩ := hw8
    subst hQ_
    exact z_iret C0 hP hS (v := (1000000000 - (-1 : Int32))) (by exact zQm_of (k := 1) (by simp [A_train, hz_ia]) (fun k hk => g1_n (by omega)) (g1_s _ _ _)) dX12_train_13
theorem flRX12_43 : Cond.fieldLink RX12 43 "WetSuitPedalsShoesModel" "own" "[I" ∈ zU := zU_m 824 (by decide +kernel) rfl
set_option maxHeartbeats 4000000 in
set_option maxRecDepth 100000 in
theorem c_X12_overtakes (l : Launch) (E : zE) (G : zG) (r : Nat → Int32) (n na : Nat) (one other what : Int32) (hM : G 93 = r) (hrn : r 0 = nI n) (hrna : r 1 = nI na) (hn10 : n ≤ 10) (hna : na ≤ 5) : zMi l yX12_overtakes wsX12_overtakes ({ frames := 6, cells := 0, slots := 0, locals := 142 } : Room) E G [.ref (E.1 92), .int one, .int other, .int what] (fun r1 G1 => zQm (A_overtakes r n na one other what) G r1 G1) := by
  refine zOf (cc := cX12_overtakes) (nL := 8) (ret := (some .int)) RX12 (by decide) rfl rfl (Nat.le_of_ble_eq_true rfl) ?_
  intro p_ e_ s_ m_ a_ b_ me_ c_ ls C0 hP hS hl
  have hx := C0.1
  have hb := C0.2.1
  have hts := C0.2.2.2.2.1
  have hD : zD E (zA E s_.heap.size) := C0.2.2.2.2.2.2.2.2
  have hA : ∀ q : Nat, s_.heap.size ≤ q → zA E s_.heap.size q := fun q h => Or.inr h
  refine z_gen (fun Q_ hQ_ => ?_)
  have hl : lv_has ls 8 [(0, .ref (E.1 92)), (1, .int one), (2, .int other), (3, .int what)] := hl
  refine lv_aload_n hx hb dX12_overtakes_0 rfl (lv_at hl 0 rfl) ?_
  refine lv_iload_n hx hb dX12_overtakes_1 rfl (lv_at hl 1 rfl) ?_
  refine z_Vi C0 hP hD hA hS (As := [.int one]) (rest := []) (k := 92) (c_X12_isAthlete l E _ na one ((congrFun (hM) _).trans (hrna)) (by omega)) (cwV 1 hts (zgV zbw mlRX12_136 imX12_isAthlete seX12_isAthlete iniRX12 coX12_isAthlete) rfl rfl rfl (by decide +kernel) ⟨Nat.le_of_ble_eq_true rfl, Nat.le_of_ble_eq_true rfl⟩) (zk_lt (rfl : zk 92 = 10) (by decide)) (zd_10 E (rfl : zk 92 = 10) _) rfl rfl rfl hl.1 rfl (Nat.le_of_ble_eq_true rfl) dX12_overtakes_2 ⟨Nat.zero_le _, Nat.zero_le _⟩ (fun r1 G1 H locs hw1 hP hS => ?_)
  rcases hw1 with ⟨rfl, rfl, io, hio, rfl⟩ | ⟨rfl, rfl, hno1⟩
  · skip
    have hz_io := zin_t hio (by omega)
    have hy_io : zix (nI io) = io := zix_n (by omega)
    refine lv_if_eq (tgt := 21) hx hb dX12_overtakes_5 (by decide) (fun h_ => absurd h_ (by decide)) (fun _ => ?_)
    refine lv_aload_n hx hb dX12_overtakes_8 rfl (lv_at hl 0 rfl) ?_
    refine lv_iload_n hx hb dX12_overtakes_9 rfl (lv_at hl 2 rfl) ?_
    refine z_Vi C0 hP hD hA hS (As := [.int other]) (rest := []) (k := 92) (c_X12_isAthlete l E _ na other ((congrFun (hM) _).trans (hrna)) (by omega)) (cwV 1 hts (zgV zbw mlRX12_136 imX12_isAthlete seX12_isAthlete iniRX12 coX12_isAthlete) rfl rfl rfl (by decide +kernel) ⟨Nat.le_of_ble_eq_true rfl, Nat.le_of_ble_eq_true rfl⟩) (zk_lt (rfl : zk 92 = 10) (by decide)) (zd_10 E (rfl : zk 92 = 10) _) rfl rfl rfl hl.1 rfl (Nat.le_of_ble_eq_true rfl) dX12_overtakes_10 ⟨Nat.zero_le _, Nat.zero_le _⟩ (fun r2 G2 H locs hw2 hP hS => ?_)
    rcases hw2 with ⟨rfl, rfl, ip, hip, rfl⟩ | ⟨rfl, rfl, hno2⟩
    · skip
      have hz_ip := zin_t hip (by omega)
      have hy_ip : zix (nI ip) = ip := zix_n (by omega)
      refine lv_if_eq (tgt := 21) hx hb dX12_overtakes_13 (by decide) (fun h_ => absurd h_ (by decide)) (fun _ => ?_)
      refine lv_iload_n hx hb dX12_overtakes_16 rfl (lv_at hl 1 rfl) ?_
      refine lv_iload_n hx hb dX12_overtakes_17 rfl (lv_at hl 2 rfl) ?_
      refine z_N_ne hx hb (a := io) (b := ip) (tgt := 27) dX12_overtakes_18 rfl rfl (by omega) (by omega) (by decide) (fun c_18 => ?_) (fun c_18 => ?_)
      · skip
        have hne_ : ¬ nI io = nI ip := fun q => c_18 ((nI_eq (by omega) (by omega)).mp q)
        refine lv_iload_n hx hb dX12_overtakes_27 rfl (lv_at hl 3 rfl) ?_
        refine lv_iconst (v := (0 : Int32)) hx hb dX12_overtakes_28 (by decide) ?_
        refine lv_iconst (v := (1 : Int32)) hx hb dX12_overtakes_29 (by decide) ?_
        refine z_Si C0 hP hD hA hS (As := [.int what, .int (0 : Int32), .int (1 : Int32)]) (rest := []) (c_X12_isIn l E _ what (0 : Int32) (1 : Int32)) (va_cwS 3 hts (zgS zbw mlRX12_62 stX12_isIn iniRX12 coX12_isIn) rfl rfl rfl (by decide +kernel) ⟨Nat.le_of_ble_eq_true rfl, Nat.le_of_ble_eq_true rfl⟩) rfl hl.1 rfl (Nat.le_of_ble_eq_true rfl) dX12_overtakes_30 ⟨Nat.zero_le _, Nat.zero_le _⟩ (fun r3 G3 H locs hw3 hP hS => ?_)
        rcases hw3 with ⟨rfl, rfl, hi1_3, hi2_3⟩ | ⟨rfl, rfl, hi0_3⟩
        · skip
          have hi3_3 := Int32.not_lt.mpr hi1_3
          have hi4_3 := Int32.not_lt.mpr hi2_3
          refine lv_if_ne (tgt := 43) hx hb dX12_overtakes_33 (by decide) (fun _ => ?_) (fun h_ => absurd h_ (by decide))
          refine lv_aload_n hx hb dX12_overtakes_43 rfl (lv_at hl 0 rfl) ?_
          refine lv_aload_n hx hb dX12_overtakes_44 rfl (lv_at hl 0 rfl) ?_
          refine z_get C0 hP (C := RX12) (T := TX12) (N := 21) (ci := 10) (index := 9) (k := 92) (ref := "WetSuitPedalsShoesModel") (zk_lt (rfl : zk 92 = 10) (by decide)) (zd_10 E (rfl : zk 92 = 10) _) rfl (zmi inU_12) 0 (by decide) (zm flRX12_9) rfl (v := .ref (E.1 93)) (rfl) dX12_overtakes_45 ?_
          refine lv_iload_n hx hb dX12_overtakes_48 rfl (lv_at hl 1 rfl) ?_
          refine z_Vi C0 hP hD hA hS (As := [.ref (E.1 93), .int (nI io)]) (rest := []) (k := 92) (c_X12_finishOf l E _ 93 io n z_lit_Arr102_93 (by omega) ((congrFun (hM) _).trans (hrn)) (by omega) (by omega)) (cwV 2 hts (zgV zbw mlRX12_156 imX12_finishOf seX12_finishOf iniRX12 coX12_finishOf) rfl rfl rfl (by decide +kernel) ⟨Nat.le_of_ble_eq_true rfl, Nat.le_of_ble_eq_true rfl⟩) (zk_lt (rfl : zk 92 = 10) (by decide)) (zd_10 E (rfl : zk 92 = 10) _) rfl rfl rfl hl.1 rfl (Nat.le_of_ble_eq_true rfl) dX12_overtakes_49 ⟨Nat.zero_le _, Nat.zero_le _⟩ (fun r4 G4 H locs hw4 hP hS => ?_)
          obtain ⟨hr4, hF4, hrow4⟩ := hw4
          rw [show G 93 = r from hM] at hr4 hrow4
          subst hr4
          refine lv_istore (lv' := [(4, .int (q_fin r n io)), (0, .ref (E.1 92)), (1, .int (nI io)), (2, .int (nI ip)), (3, .int what)]) hx hb dX12_overtakes_52 hl (by decide) rfl (fun ls hl => ?_)
          refine lv_iconst (v := (0 : Int32)) hx hb dX12_overtakes_54 (by decide) ?_
          refine lv_istore (lv' := [(5, .int (0 : Int32)), (4, .int (q_fin r n io)), (0, .ref (E.1 92)), (1, .int (nI io)), (2, .int (nI ip)), (3, .int what)]) hx hb dX12_overtakes_55 hl (by decide) rfl (fun ls hl => ?_)
          have cut_57 : ∀ (fuel : Nat), ∀ (i : Nat) (f : Nat → Int32) (H : Heap) (locs : List Loc) (ls : Array Slot), (i ≤ n) → (∀ j, j < i → f j = q_all r io j) → zP E (g1 G4 104 f) H → va_S (zA E s_.heap.size) s_.heap H locs → lv_has ls 8 [(0, .ref (E.1 92)), (1, .int (nI io)), (2, .int (nI ip)), (3, .int what), (4, .int (q_fin r n io)), (5, .int (nI i))] → n - i < fuel → W p_ l e_ ({ frames := 6, cells := 0, slots := 0, locals := 142 } : Room) s_ m_ a_ b_ me_ c_ H locs 0 0 Q_ (F0 m_ 57 ls []) := by
            intro fuel
            induction fuel with
            | zero =>
              intro i  f  H locs ls hin hf hP hS hl hfu
              exact absurd hfu (Nat.not_lt_zero _)
            | succ fuel ih_57 =>
              intro i  f  H locs ls hin hf hP hS hl hfu_57
              refine lv_iload hx hb dX12_overtakes_57 (lv_at hl 5 rfl) ?_
              refine lv_aload_n hx hb dX12_overtakes_59 rfl (lv_at hl 0 rfl) ?_
              refine z_get C0 hP (C := RX12) (T := TX12) (N := 21) (ci := 10) (index := 9) (k := 92) (ref := "WetSuitPedalsShoesModel") (zk_lt (rfl : zk 92 = 10) (by decide)) (zd_10 E (rfl : zk 92 = 10) _) rfl (zmi inU_12) 0 (by decide) (zm flRX12_9) rfl (v := .ref (E.1 93)) (rfl) dX12_overtakes_60 ?_
              refine lv_iconst (v := (0 : Int32)) hx hb dX12_overtakes_63 (by decide) ?_
              refine z_iald C0 hP (k := 93) (i := 0) (v := (nI n)) (rfl : zk 93 = 11) (Nat.lt_of_lt_of_eq (show 0 < 102 by decide) (rfl : zl 93 = 102).symm) rfl dX12_overtakes_64 ((congrFun ((g1_n (by decide)).trans ((hF4 _ (by decide)).trans (hM))) _).trans (hrn)) ?_
              refine z_N_ge hx hb (a := i) (b := n) (tgt := 88) dX12_overtakes_65 rfl rfl (by omega) (by omega) (by decide) (fun c_65 => ?_) (fun c_65 => ?_)
              · skip
                refine lv_aload_n hx hb dX12_overtakes_88 rfl (lv_at hl 0 rfl) ?_
                refine lv_aload_n hx hb dX12_overtakes_89 rfl (lv_at hl 0 rfl) ?_
                refine z_get C0 hP (C := RX12) (T := TX12) (N := 21) (ci := 10) (index := 9) (k := 92) (ref := "WetSuitPedalsShoesModel") (zk_lt (rfl : zk 92 = 10) (by decide)) (zd_10 E (rfl : zk 92 = 10) _) rfl (zmi inU_12) 0 (by decide) (zm flRX12_9) rfl (v := .ref (E.1 93)) (rfl) dX12_overtakes_90 ?_
                refine lv_iload_n hx hb dX12_overtakes_93 rfl (lv_at hl 2 rfl) ?_
                refine z_Vi C0 hP hD hA hS (As := [.ref (E.1 93), .int (nI ip)]) (rest := []) (k := 92) (c_X12_finishOf l E _ 93 ip n z_lit_Arr102_93 (by omega) ((congrFun ((g1_n (by decide)).trans ((hF4 _ (by decide)).trans (hM))) _).trans (hrn)) (by omega) (by omega)) (cwV 2 hts (zgV zbw mlRX12_156 imX12_finishOf seX12_finishOf iniRX12 coX12_finishOf) rfl rfl rfl (by decide +kernel) ⟨Nat.le_of_ble_eq_true rfl, Nat.le_of_ble_eq_true rfl⟩) (zk_lt (rfl : zk 92 = 10) (by decide)) (zd_10 E (rfl : zk 92 = 10) _) rfl rfl rfl hl.1 rfl (Nat.le_of_ble_eq_true rfl) dX12_overtakes_94 ⟨Nat.zero_le _, Nat.zero_le _⟩ (fun r5 G5 H locs hw5 hP hS => ?_)
                obtain ⟨hr5, hF5, hrow5⟩ := hw5
                rw [show (g1 G4 104 f) 93 = r from (g1_n (by decide)).trans ((hF4 _ (by decide)).trans (hM))] at hr5 hrow5
                subst hr5
                refine lv_istore (lv' := [(4, .int (q_fin r n ip)), (0, .ref (E.1 92)), (1, .int (nI io)), (2, .int (nI ip)), (3, .int what), (5, .int (nI i))]) hx hb dX12_overtakes_97 hl (by decide) rfl (fun ls hl => ?_)
                refine lv_iconst (v := (0 : Int32)) hx hb dX12_overtakes_99 (by decide) ?_
                refine lv_istore (lv' := [(5, .int (0 : Int32)), (4, .int (q_fin r n ip)), (0, .ref (E.1 92)), (1, .int (nI io)), (2, .int (nI ip)), (3, .int what)]) hx hb dX12_overtakes_100 hl (by decide) rfl (fun ls hl => ?_)
                refine lv_bipush (v := (-9 : Int32)) hx hb dX12_overtakes_102 (by decide) ?_
                refine lv_istore (lv' := [(6, .int (-9 : Int32)), (5, .int (0 : Int32)), (4, .int (q_fin r n ip)), (0, .ref (E.1 92)), (1, .int (nI io)), (2, .int (nI ip)), (3, .int what)]) hx hb dX12_overtakes_104 hl (by decide) rfl (fun ls hl => ?_)
                refine lv_iconst (v := (1 : Int32)) hx hb dX12_overtakes_106 (by decide) ?_
                refine lv_istore (lv' := [(7, .int (1 : Int32)), (6, .int (-9 : Int32)), (5, .int (0 : Int32)), (4, .int (q_fin r n ip)), (0, .ref (E.1 92)), (1, .int (nI io)), (2, .int (nI ip)), (3, .int what)]) hx hb dX12_overtakes_107 hl (by decide) rfl (fun ls hl => ?_)
                have cut_109 : ∀ (fuel : Nat), ∀ (i k : Nat) (fi : Int32) (H : Heap) (locs : List Loc) (ls : Array Slot), (1 ≤ i ∧ i ≤ n + 1) → (i ≤ n ∨ n = 0) → (k = s_cnt (s_past (q_all r io) (q_all r ip)) i) → ((k = 0 ∧ fi = -9 ∧ s_fst (s_past (q_all r io) (q_all r ip)) i = i) ∨ (0 < k ∧ s_fst (s_past (q_all r io) (q_all r ip)) i < i ∧ fi = nI (s_fst (s_past (q_all r io) (q_all r ip)) i))) → zP E G5 H → va_S (zA E s_.heap.size) s_.heap H locs → lv_has ls 8 [(0, .ref (E.1 92)), (1, .int (nI io)), (2, .int (nI ip)), (3, .int what), (4, .int (q_fin r n ip)), (5, .int (nI k)), (6, .int fi), (7, .int (nI i))] → n + 1 - i < fuel → W p_ l e_ ({ frames := 6, cells := 0, slots := 0, locals := 142 } : Room) s_ m_ a_ b_ me_ c_ H locs 0 0 Q_ (F0 m_ 109 ls []) := by
                  intro fuel
                  induction fuel with
                  | zero =>
                    intro i k  fi  H locs ls hin hin2 hk hfi hP hS hl hfu
                    exact absurd hfu (Nat.not_lt_zero _)
                  | succ fuel ih_109 =>
                    intro i k  fi  H locs ls hin hin2 hk hfi hP hS hl hfu_109
                    refine lv_iload hx hb dX12_overtakes_109 (lv_at hl 7 rfl) ?_
                    refine lv_aload_n hx hb dX12_overtakes_111 rfl (lv_at hl 0 rfl) ?_
                    refine z_get C0 hP (C := RX12) (T := TX12) (N := 21) (ci := 10) (index := 9) (k := 92) (ref := "WetSuitPedalsShoesModel") (zk_lt (rfl : zk 92 = 10) (by decide)) (zd_10 E (rfl : zk 92 = 10) _) rfl (zmi inU_12) 0 (by decide) (zm flRX12_9) rfl (v := .ref (E.1 93)) (rfl) dX12_overtakes_112 ?_
                    refine lv_iconst (v := (0 : Int32)) hx hb dX12_overtakes_115 (by decide) ?_
                    refine z_iald C0 hP (k := 93) (i := 0) (v := (nI n)) (rfl : zk 93 = 11) (Nat.lt_of_lt_of_eq (show 0 < 102 by decide) (rfl : zl 93 = 102).symm) rfl dX12_overtakes_116 ((congrFun ((hF5 _ (by decide)).trans ((g1_n (by decide)).trans ((hF4 _ (by decide)).trans (hM)))) _).trans (hrn)) ?_
                    refine z_N_ge hx hb (a := i) (b := n) (tgt := 184) dX12_overtakes_117 rfl rfl (by omega) (by omega) (by decide) (fun c_117 => ?_) (fun c_117 => ?_)
                    · skip
                      have hov := s_past_end (p := s_past (q_all r io) (q_all r ip)) (s_past_0 _ _) hin hin2 c_117 hk hfi
                      refine lv_iload_n hx hb dX12_overtakes_184 rfl (lv_at hl 3 rfl) ?_
                      refine lv_if_ne (tgt := 193) hx hb dX12_overtakes_185 (by decide) (fun c_185 => ?_) (fun c_185 => ?_)
                      · skip
                        refine lv_iload hx hb dX12_overtakes_193 (lv_at hl 6 rfl) ?_
                        subst hQ_
                        exact z_iret C0 hP hS (v := fi) (by exact zQm_of (k := 0) (by simp [A_overtakes, hz_io, hy_io, hz_ip, hy_ip, c_18, hne_, hi3_3, hi4_3, c_65, c_117, hov.1, hov.2, c_185]) (fun k hk => (hF5 k (by omega)).trans ((g1_n (by omega)).trans (hF4 k (by omega)))) ((hF5 _ (by decide)).trans ((g1_n (by decide)).trans (hF4 _ (by decide))))) dX12_overtakes_195
                      · skip
                        refine lv_iload hx hb dX12_overtakes_188 (lv_at hl 5 rfl) ?_
                        refine lv_goto (tgt := 195) hx hb dX12_overtakes_190 (by decide) ?_
                        subst hQ_
                        exact z_iret C0 hP hS (v := (nI k)) (by exact zQm_of (k := 0) (by simp [A_overtakes, hz_io, hy_io, hz_ip, hy_ip, c_18, hne_, hi3_3, hi4_3, c_65, c_117, hov.1, hov.2, c_185]) (fun k hk => (hF5 k (by omega)).trans ((g1_n (by omega)).trans (hF4 k (by omega)))) ((hF5 _ (by decide)).trans ((g1_n (by decide)).trans (hF4 _ (by decide))))) dX12_overtakes_195
                    · skip
                      refine lv_aload_n hx hb dX12_overtakes_120 rfl (lv_at hl 0 rfl) ?_
                      refine z_get C0 hP (C := RX12) (T := TX12) (N := 21) (ci := 10) (index := 43) (k := 92) (ref := "WetSuitPedalsShoesModel") (zk_lt (rfl : zk 92 = 10) (by decide)) (zd_10 E (rfl : zk 92 = 10) _) rfl (zmi inU_12) 16 (by decide) (zm flRX12_43) rfl (v := .ref (E.1 104)) (rfl) dX12_overtakes_121 ?_
                      refine lv_iload hx hb dX12_overtakes_124 (lv_at hl 7 rfl) ?_
                      refine lv_iconst (v := (1 : Int32)) hx hb dX12_overtakes_126 (by decide) ?_
                      refine z_isub hx hb (a := i) (b := 1) (n := i - 1) dX12_overtakes_127 rfl rfl (by omega) (by omega) ?_
                      refine z_iald C0 hP (k := 104) (i := i - 1) (v := (q_all r io (i - 1))) (rfl : zk 104 = 11) (Nat.lt_of_lt_of_eq (show i - 1 < 10 by omega) (rfl : zl 104 = 10).symm) rfl dX12_overtakes_128 ((congrFun ((hF5 _ (by decide)).trans (g1_s _ _ _)) _).trans (hf (i - 1) (by omega))) ?_
                      refine lv_aload_n hx hb dX12_overtakes_129 rfl (lv_at hl 0 rfl) ?_
                      refine z_get C0 hP (C := RX12) (T := TX12) (N := 21) (ci := 10) (index := 37) (k := 92) (ref := "WetSuitPedalsShoesModel") (zk_lt (rfl : zk 92 = 10) (by decide)) (zd_10 E (rfl : zk 92 = 10) _) rfl (zmi inU_12) 12 (by decide) (zm flRX12_37) rfl (v := .ref (E.1 102)) (rfl) dX12_overtakes_130 ?_
                      refine lv_iload hx hb dX12_overtakes_133 (lv_at hl 7 rfl) ?_
                      refine lv_iconst (v := (1 : Int32)) hx hb dX12_overtakes_135 (by decide) ?_
                      refine z_isub hx hb (a := i) (b := 1) (n := i - 1) dX12_overtakes_136 rfl rfl (by omega) (by omega) ?_
                      refine z_iald C0 hP (k := 102) (i := i - 1) (v := (q_all r ip (i - 1))) (rfl : zk 102 = 11) (Nat.lt_of_lt_of_eq (show i - 1 < 10 by omega) (rfl : zl 102 = 10).symm) rfl dX12_overtakes_137 ((hrow5 (i - 1) (by omega)).2.2) ?_
                      refine lv_icmp_le (tgt := 178) hx hb dX12_overtakes_138 (by decide) (fun c_138 => ?_) (fun c_138 => ?_)
                      · skip
                        have d_138 := Int32.not_lt.mpr c_138
                        have hpn := (show ¬ s_past (q_all r io) (q_all r ip) i = true from fun q => d_138 (of_decide_eq_true q).2.1)
                        refine lv_iinc (v := (nI (i + 1))) (lv' := [(7, .int (nI (i + 1))), (0, .ref (E.1 92)), (1, .int (nI io)), (2, .int (nI ip)), (3, .int what), (4, .int (q_fin r n ip)), (5, .int (nI k)), (6, .int fi)]) hx hb dX12_overtakes_178 hl (k := 7) rfl (z_inc (by decide)) (by decide) rfl (fun ls hl => ?_)
                        refine lv_goto (tgt := 109) hx hb dX12_overtakes_181 (by decide) ?_
                        exact ih_109 (i + 1) k fi _ _ _ (by omega) (by omega) (by rw [hk]; exact (s_cnt_n hpn).symm) (by rcases hfi with ⟨h1, h2, h3⟩ | ⟨h1, h2, h3⟩; (exact Or.inl ⟨h1, h2, s_fst_no h3 hpn⟩); (have h4 := s_fst_st h2; exact Or.inr ⟨h1, by omega, h3.trans (congrArg nI h4.symm)⟩)) hP hS (lv_sub hl [1, 2, 3, 4, 5, 6, 7, 0] rfl) (by omega)
                      · skip
                        have d_138 := Int32.not_le.mp c_138
                        refine lv_aload_n hx hb dX12_overtakes_141 rfl (lv_at hl 0 rfl) ?_
                        refine z_get C0 hP (C := RX12) (T := TX12) (N := 21) (ci := 10) (index := 43) (k := 92) (ref := "WetSuitPedalsShoesModel") (zk_lt (rfl : zk 92 = 10) (by decide)) (zd_10 E (rfl : zk 92 = 10) _) rfl (zmi inU_12) 16 (by decide) (zm flRX12_43) rfl (v := .ref (E.1 104)) (rfl) dX12_overtakes_142 ?_
                        refine lv_iload hx hb dX12_overtakes_145 (lv_at hl 7 rfl) ?_
                        refine z_iald C0 hP (k := 104) (i := i) (v := (q_all r io i)) (rfl : zk 104 = 11) (Nat.lt_of_lt_of_eq (show i < 10 by omega) (rfl : zl 104 = 10).symm) rfl dX12_overtakes_147 ((congrFun ((hF5 _ (by decide)).trans (g1_s _ _ _)) _).trans (hf i (by omega))) ?_
                        refine lv_aload_n hx hb dX12_overtakes_148 rfl (lv_at hl 0 rfl) ?_
                        refine z_get C0 hP (C := RX12) (T := TX12) (N := 21) (ci := 10) (index := 37) (k := 92) (ref := "WetSuitPedalsShoesModel") (zk_lt (rfl : zk 92 = 10) (by decide)) (zd_10 E (rfl : zk 92 = 10) _) rfl (zmi inU_12) 12 (by decide) (zm flRX12_37) rfl (v := .ref (E.1 102)) (rfl) dX12_overtakes_149 ?_
                        refine lv_iload hx hb dX12_overtakes_152 (lv_at hl 7 rfl) ?_
                        refine z_iald C0 hP (k := 102) (i := i) (v := (q_all r ip i)) (rfl : zk 102 = 11) (Nat.lt_of_lt_of_eq (show i < 10 by omega) (rfl : zl 102 = 10).symm) rfl dX12_overtakes_154 ((hrow5 i (by omega)).2.2) ?_
                        refine lv_icmp_lt (tgt := 161) hx hb dX12_overtakes_155 (by decide) (fun c_155 => ?_) (fun c_155 => ?_)
                        · skip
                          have hpy := (show s_past (q_all r io) (q_all r ip) i = true from decide_eq_true ⟨by omega, d_138, c_155⟩)
                          refine lv_iload hx hb dX12_overtakes_161 (lv_at hl 5 rfl) ?_
                          refine z_0_ne hx hb (a := k) (tgt := 171) dX12_overtakes_163 rfl (by (have h9 := s_cnt_le (s_past (q_all r io) (q_all r ip)) i; omega)) (by decide) (fun c_163 => ?_) (fun c_163 => ?_)
                          · skip
                            refine lv_iload hx hb dX12_overtakes_171 (lv_at hl 6 rfl) ?_
                            refine lv_istore (lv' := [(6, .int fi), (0, .ref (E.1 92)), (1, .int (nI io)), (2, .int (nI ip)), (3, .int what), (4, .int (q_fin r n ip)), (5, .int (nI k)), (7, .int (nI i))]) hx hb dX12_overtakes_173 hl (by decide) rfl (fun ls hl => ?_)
                            refine lv_iinc (v := (nI (k + 1))) (lv' := [(5, .int (nI (k + 1))), (6, .int fi), (0, .ref (E.1 92)), (1, .int (nI io)), (2, .int (nI ip)), (3, .int what), (4, .int (q_fin r n ip)), (7, .int (nI i))]) hx hb dX12_overtakes_175 hl (k := 6) rfl (z_inc (by decide)) (by decide) rfl (fun ls hl => ?_)
                            refine lv_iinc (v := (nI (i + 1))) (lv' := [(7, .int (nI (i + 1))), (5, .int (nI (k + 1))), (6, .int fi), (0, .ref (E.1 92)), (1, .int (nI io)), (2, .int (nI ip)), (3, .int what), (4, .int (q_fin r n ip))]) hx hb dX12_overtakes_178 hl (k := 7) rfl (z_inc (by decide)) (by decide) rfl (fun ls hl => ?_)
                            refine lv_goto (tgt := 109) hx hb dX12_overtakes_181 (by decide) ?_
                            exact ih_109 (i + 1) (k + 1) fi _ _ _ (by omega) (by omega) (by rw [hk]; exact (s_cnt_y hpy).symm) (by rcases hfi with ⟨h1, h2, h3⟩ | ⟨h1, h2, h3⟩; (exact absurd h1 (by omega)); (have h4 := s_fst_st h2; exact Or.inr ⟨by omega, by omega, h3.trans (congrArg nI h4.symm)⟩)) hP hS (lv_sub hl [3, 4, 5, 6, 7, 1, 2, 0] rfl) (by omega)
                          · skip
                            refine lv_iload hx hb dX12_overtakes_166 (lv_at hl 7 rfl) ?_
                            refine lv_goto (tgt := 173) hx hb dX12_overtakes_168 (by decide) ?_
                            refine lv_istore (lv' := [(6, .int (nI i)), (0, .ref (E.1 92)), (1, .int (nI io)), (2, .int (nI ip)), (3, .int what), (4, .int (q_fin r n ip)), (5, .int (nI k)), (7, .int (nI i))]) hx hb dX12_overtakes_173 hl (by decide) rfl (fun ls hl => ?_)
                            refine lv_iinc (v := (nI (k + 1))) (lv' := [(5, .int (nI (k + 1))), (6, .int (nI i)), (0, .ref (E.1 92)), (1, .int (nI io)), (2, .int (nI ip)), (3, .int what), (4, .int (q_fin r n ip)), (7, .int (nI i))]) hx hb dX12_overtakes_175 hl (k := 6) rfl (z_inc (by decide)) (by decide) rfl (fun ls hl => ?_)
                            refine lv_iinc (v := (nI (i + 1))) (lv' := [(7, .int (nI (i + 1))), (5, .int (nI (k + 1))), (6, .int (nI i)), (0, .ref (E.1 92)), (1, .int (nI io)), (2, .int (nI ip)), (3, .int what), (4, .int (q_fin r n ip))]) hx hb dX12_overtakes_178 hl (k := 7) rfl (z_inc (by decide)) (by decide) rfl (fun ls hl => ?_)
                            refine lv_goto (tgt := 109) hx hb dX12_overtakes_181 (by decide) ?_
                            exact ih_109 (i + 1) (k + 1) (nI i) _ _ _ (by omega) (by omega) (by rw [hk]; exact (s_cnt_y hpy).symm) (by rcases hfi with ⟨h1, h2, h3⟩ | ⟨h1, h2, h3⟩; (have h4 := s_fst_yes (n := i + 1) h3 hpy (by omega); exact Or.inr ⟨by omega, by omega, congrArg nI h4.symm⟩); (exact absurd h1 (by omega))) hP hS (lv_sub hl [3, 4, 5, 6, 7, 1, 2, 0] rfl) (by omega)
                        · skip
                          have hpn := (show ¬ s_past (q_all r io) (q_all r ip) i = true from fun q => c_155 (of_decide_eq_true q).2.2)
                          refine lv_goto (tgt := 178) hx hb dX12_overtakes_158 (by decide) ?_
                          refine lv_iinc (v := (nI (i + 1))) (lv' := [(7, .int (nI (i + 1))), (0, .ref (E.1 92)), (1, .int (nI io)), (2, .int (nI ip)), (3, .int what), (4, .int (q_fin r n ip)), (5, .int (nI k)), (6, .int fi)]) hx hb dX12_overtakes_178 hl (k := 7) rfl (z_inc (by decide)) (by decide) rfl (fun ls hl => ?_)
                          refine lv_goto (tgt := 109) hx hb dX12_overtakes_181 (by decide) ?_
                          exact ih_109 (i + 1) k fi _ _ _ (by omega) (by omega) (by rw [hk]; exact (s_cnt_n hpn).symm) (by rcases hfi with ⟨h1, h2, h3⟩ | ⟨h1, h2, h3⟩; (exact Or.inl ⟨h1, h2, s_fst_no h3 hpn⟩); (have h4 := s_fst_st h2; exact Or.inr ⟨h1, by omega, h3.trans (congrArg nI h4.symm)⟩)) hP hS (lv_sub hl [1, 2, 3, 4, 5, 6, 7, 0] rfl) (by omega)
                exact cut_109 (_ + 1) 1 0 (-9 : Int32) _ _ _ (by omega) (by omega) (by exact (s_cnt_n (s_past_0 _ _)).symm) (by exact Or.inl ⟨rfl, rfl, s_fst_no (i := 0) rfl (s_past_0 _ _)⟩) hP hS (lv_sub hl [4, 5, 6, 7, 3, 2, 1, 0] rfl) (Nat.lt_succ_self _)
              · skip
                refine lv_aload_n hx hb dX12_overtakes_68 rfl (lv_at hl 0 rfl) ?_
                refine z_get C0 hP (C := RX12) (T := TX12) (N := 21) (ci := 10) (index := 43) (k := 92) (ref := "WetSuitPedalsShoesModel") (zk_lt (rfl : zk 92 = 10) (by decide)) (zd_10 E (rfl : zk 92 = 10) _) rfl (zmi inU_12) 16 (by decide) (zm flRX12_43) rfl (v := .ref (E.1 104)) (rfl) dX12_overtakes_69 ?_
                refine lv_iload hx hb dX12_overtakes_72 (lv_at hl 5 rfl) ?_
                refine lv_aload_n hx hb dX12_overtakes_74 rfl (lv_at hl 0 rfl) ?_
                refine z_get C0 hP (C := RX12) (T := TX12) (N := 21) (ci := 10) (index := 37) (k := 92) (ref := "WetSuitPedalsShoesModel") (zk_lt (rfl : zk 92 = 10) (by decide)) (zd_10 E (rfl : zk 92 = 10) _) rfl (zmi inU_12) 12 (by decide) (zm flRX12_37) rfl (v := .ref (E.1 102)) (rfl) dX12_overtakes_75 ?_
                refine lv_iload hx hb dX12_overtakes_78 (lv_at hl 5 rfl) ?_
                refine z_iald C0 hP (k := 102) (i := i) (v := (q_all r io i)) (rfl : zk 102 = 11) (Nat.lt_of_lt_of_eq (show i < 10 by omega) (rfl : zl 102 = 10).symm) rfl dX12_overtakes_80 ((congrFun (g1_n (by decide)) _).trans ((hrow4 i (by omega)).2.2)) ?_
                refine z_iast C0 hP hD hS (k := 104) (i := i) (v := (q_all r io i)) (F := f) (g1_s _ _ _) (rfl : zk 104 = 11) (Nat.lt_of_lt_of_eq (show i < 10 by omega) (rfl : zl 104 = 10).symm) rfl dX12_overtakes_81 (fun H locs hP hS => ?_)
                have hP := zP_eq (g1_t _ _ _ _ : _ = (g1 G4 104 (upd f i (q_all r io i)))) hP
                refine lv_iinc (v := (nI (i + 1))) (lv' := [(5, .int (nI (i + 1))), (0, .ref (E.1 92)), (1, .int (nI io)), (2, .int (nI ip)), (3, .int what), (4, .int (q_fin r n io))]) hx hb dX12_overtakes_82 hl (k := 5) rfl (z_inc (by decide)) (by decide) rfl (fun ls hl => ?_)
                refine lv_goto (tgt := 57) hx hb dX12_overtakes_85 (by decide) ?_
                exact ih_57 (i + 1) (upd f i (q_all r io i)) _ _ _ (by first | assumption | omega) (by intro j hj; by_cases e9 : j = i; (subst e9; exact pk_us); (rw [pk_un e9]; exact hf j (by omega))) hP hS (lv_sub hl [1, 2, 3, 4, 5, 0] rfl) (by omega)
          exact cut_57 (_ + 1) 0 (G4 104) _ _ _ (by first | assumption | omega) (by exact fun j hj => absurd hj (Nat.not_lt_zero j)) (zP_eq ((g1_e G4 104).symm) hP) hS (lv_sub hl [2, 3, 4, 5, 1, 0] rfl) (Nat.lt_succ_self _)
        · skip
          have hi5_3 := z_nin hi0_3
          refine lv_if_ne (tgt := 43) hx hb dX12_overtakes_33 (by decide) (fun h_ => absurd (by decide) h_) (fun _ => ?_)
          refine lv_aload_n hx hb dX12_overtakes_36 rfl (lv_at hl 0 rfl) ?_
          refine lv_bipush (v := (-2 : Int32)) hx hb dX12_overtakes_37 (by decide) ?_
          refine z_Vi C0 hP hD hA hS (As := [.int (-2 : Int32)]) (rest := []) (k := 92) (c_X12_no l E _ (-2 : Int32) 2 (by decide) (by decide)) (cwV 1 hts (zgV zbw mlRX12_56 imX12_no seX12_no iniRX12 coX12_no) rfl rfl rfl (by decide +kernel) ⟨Nat.le_of_ble_eq_true rfl, Nat.le_of_ble_eq_true rfl⟩) (zk_lt (rfl : zk 92 = 10) (by decide)) (zd_10 E (rfl : zk 92 = 10) _) rfl rfl rfl hl.1 rfl (Nat.le_of_ble_eq_true rfl) dX12_overtakes_39 ⟨Nat.zero_le _, Nat.zero_le _⟩ (fun r6 G6 H locs hw6 hP hS => ?_)
          obtain ⟨rfl, rfl⟩ := hw6
          subst hQ_
          exact z_iret C0 hP hS (v := (-2 : Int32)) (by exact zQm_of (k := 2) (by simp [A_overtakes, hz_io, hy_io, hz_ip, hy_ip, c_18, hne_, hi5_3]) (fun k hk => g1_n (by omega)) (g1_s _ _ _)) dX12_overtakes_42
      · skip
        have hne_ : nI io = nI ip := congrArg nI c_18
        refine lv_aload_n hx hb dX12_overtakes_21 rfl (lv_at hl 0 rfl) ?_
        refine lv_iconst (v := (-1 : Int32)) hx hb dX12_overtakes_22 (by decide) ?_
        refine z_Vi C0 hP hD hA hS (As := [.int (-1 : Int32)]) (rest := []) (k := 92) (c_X12_no l E _ (-1 : Int32) 1 (by decide) (by decide)) (cwV 1 hts (zgV zbw mlRX12_56 imX12_no seX12_no iniRX12 coX12_no) rfl rfl rfl (by decide +kernel) ⟨Nat.le_of_ble_eq_true rfl, Nat.le_of_ble_eq_true rfl⟩) (zk_lt (rfl : zk 92 = 10) (by decide)) (zd_10 E (rfl : zk 92 = 10) _) rfl rfl rfl hl.1 rfl (Nat.le_of_ble_eq_true rfl) dX12_overtakes_23 ⟨Nat.zero_le _, Nat.zero_le _⟩ (fun r7 G7 H locs hw7 hP hS => ?_)
        obtain ⟨rfl, rfl⟩ := hw7
        subst hQ_
        exact z_iret C0 hP hS (v := (-1 : Int32)) (by exact zQm_of (k := 1) (by simp [A_overtakes, hz_io, hy_io, hz_ip, hy_ip, c_18, hne_]) (fun k hk => g1_n (by omega)) (g1_s _ _ _)) dX12_overtakes_26
    · skip
      have hz_ip := zin_f (by omega) hno2
      refine lv_if_eq (tgt := 21) hx hb dX12_overtakes_13 (by decide) (fun _ => ?_) (fun h_ => absurd (by decide) h_)
      refine lv_aload_n hx hb dX12_overtakes_21 rfl (lv_at hl 0 rfl) ?_
      refine lv_iconst (v := (-1 : Int32)) hx hb dX12_overtakes_22 (by decide) ?_
      refine z_Vi C0 hP hD hA hS (As := [.int (-1 : Int32)]) (rest := []) (k := 92) (c_X12_no l E _ (-1 : Int32) 1 (by decide) (by decide)) (cwV 1 hts (zgV zbw mlRX12_56 imX12_no seX12_no iniRX12 coX12_no) rfl rfl rfl (by decide +kernel) ⟨Nat.le_of_ble_eq_true rfl, Nat.le_of_ble_eq_true rfl⟩) (zk_lt (rfl : zk 92 = 10) (by decide)) (zd_10 E (rfl : zk 92 = 10) _) rfl rfl rfl hl.1 rfl (Nat.le_of_ble_eq_true rfl) dX12_overtakes_23 ⟨Nat.zero_le _, Nat.zero_le _⟩ (fun r8 G8 H locs hw8 hP hS => ?_)
      obtain ⟨rfl, rfl⟩ := hw8
      subst hQ_
      exact z_iret C0 hP hS (v := (-1 : Int32)) (by exact zQm_of (k := 1) (by simp [A_overtakes, hz_io, hy_io, hz_ip]) (fun k hk => g1_n (by omega)) (g1_s _ _ _)) dX12_overtakes_26
  · skip
    have hz_io := zin_f (by omega) hno1
    refine lv_if_eq (tgt := 21) hx hb dX12_overtakes_5 (by decide) (fun _ => ?_) (fun h_ => absurd (by decide) h_)
    refine lv_aload_n hx hb dX12_overtakes_21 rfl (lv_at hl 0 rfl) ?_
    refine lv_iconst (v := (-1 : Int32)) hx hb dX12_overtakes_22 (by decide) ?_
    refine z_Vi C0 hP hD hA hS (As := [.int (-1 : Int32)]) (rest := []) (k := 92) (c_X12_no l E _ (-1 : Int32) 1 (by decide) (by decide)) (cwV 1 hts (zgV zbw mlRX12_56 imX12_no seX12_no iniRX12 coX12_no) rfl rfl rfl (by decide +kernel) ⟨Nat.le_of_ble_eq_true rfl, Nat.le_of_ble_eq_true rfl⟩) (zk_lt (rfl : zk 92 = 10) (by decide)) (zd_10 E (rfl : zk 92 = 10) _) rfl rfl rfl hl.1 rfl (Nat.le_of_ble_eq_true rfl) dX12_overtakes_23 ⟨Nat.zero_le _, Nat.zero_le _⟩ (fun r9 G9 H locs hw9 hP hS => ?_)
    obtain ⟨rfl, rfl⟩ := hw9
    subst hQ_
    exact z_iret C0 hP hS (v := (-1 : Int32)) (by exact zQm_of (k := 1) (by simp [A_overtakes, hz_io]) (fun k hk => g1_n (by omega)) (g1_s _ _ _)) dX12_overtakes_26
