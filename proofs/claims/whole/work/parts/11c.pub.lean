/-! laid by wip/whole/vcg.py -/
theorem flRX12_13 : Cond.fieldLink RX12 13 "WetSuitPedalsShoesModel" "m" "[I" ∈ zU := zU_m 809 (by decide +kernel) rfl
theorem z_lit_Arr102_94 : zIs 94 tArr102 := by unfold zIs; decide +kernel
theorem mlRX12_149 : Cond.methodLink RX12 149 yX12_lays ∈ zU := zU_m 914 (by decide +kernel) rfl
theorem coX12_lays : Cond.code yX12_lays cX12_lays 3 none ∈ zU := zU_m 916 (by decide +kernel) rfl
theorem stX12_lays : Cond.static yX12_lays ∈ zU := zU_m 915 (by decide +kernel) rfl
theorem mlRX12_156 : Cond.methodLink RX12 156 yX12_finishOf ∈ zU := zU_m 977 (by decide +kernel) rfl
theorem coX12_finishOf : Cond.code yX12_finishOf cX12_finishOf 3 (some .int) ∈ zU := zU_m 980 (by decide +kernel) rfl
theorem imX12_finishOf : Cond.instanceMethod yX12_finishOf ∈ zU := zU_m 979 (by decide +kernel) rfl
theorem seX12_finishOf : Cond.selects RX12 yX12_finishOf yX12_finishOf ∈ zU := zU_m 37 (by decide +kernel) rfl
set_option maxHeartbeats 4000000 in
set_option maxRecDepth 100000 in
theorem c_X12_finishWith (l : Launch) (E : zE) (G : zG) (r : Nat → Int32) (n na : Nat) (a w : Nat) (v : Int32) (hM : G 93 = r) (hrn : r 0 = nI n) (hrna : r 1 = nI na) (hn10 : n ≤ 10) (hna : na ≤ 5) (ha : a < na) (hw : w < 4) : zMi l yX12_finishWith wsX12_finishWith ({ frames := 6, cells := 0, slots := 0, locals := 142 } : Room) E G [.ref (E.1 92), .int (nI a), .int (nI w), .int v] (fun r1 G1 => q_with r n a w v = r1 ∧ ∀ k, (k < 94 ∨ (94 < k ∧ k < 100) ∨ 102 < k) → G1 k = G k) := by
  refine zOf (cc := cX12_finishWith) (nL := 4) (ret := (some .int)) RX12 (by decide) rfl rfl (Nat.le_of_ble_eq_true rfl) ?_
  intro p_ e_ s_ m_ a_ b_ me_ c_ ls C0 hP hS hl
  have hx := C0.1
  have hb := C0.2.1
  have hts := C0.2.2.2.2.1
  have hD : zD E (zA E s_.heap.size) := C0.2.2.2.2.2.2.2.2
  have hA : ∀ q : Nat, s_.heap.size ≤ q → zA E s_.heap.size q := fun q h => Or.inr h
  refine z_gen (fun Q_ hQ_ => ?_)
  have hl : lv_has ls 4 [(0, .ref (E.1 92)), (1, .int (nI a)), (2, .int (nI w)), (3, .int v)] := hl
  refine lv_aload_n hx hb dX12_finishWith_0 rfl (lv_at hl 0 rfl) ?_
  refine z_get C0 hP (C := RX12) (T := TX12) (N := 21) (ci := 10) (index := 9) (k := 92) (ref := "WetSuitPedalsShoesModel") (zk_lt (rfl : zk 92 = 10) (by decide)) (zd_10 E (rfl : zk 92 = 10) _) rfl (zmi inU_12) 0 (by decide) (zm flRX12_9) rfl (v := .ref (E.1 93)) (rfl) dX12_finishWith_1 ?_
  refine lv_aload_n hx hb dX12_finishWith_4 rfl (lv_at hl 0 rfl) ?_
  refine z_get C0 hP (C := RX12) (T := TX12) (N := 21) (ci := 10) (index := 13) (k := 92) (ref := "WetSuitPedalsShoesModel") (zk_lt (rfl : zk 92 = 10) (by decide)) (zd_10 E (rfl : zk 92 = 10) _) rfl (zmi inU_12) 1 (by decide) (zm flRX12_13) rfl (v := .ref (E.1 94)) (rfl) dX12_finishWith_5 ?_
  refine z_Sv C0 hP hD hA hS (As := [.ref (E.1 93), .ref (E.1 94)]) (rest := []) (c_X12_lays l E _ 93 94 z_lit_Arr102_93 z_lit_Arr102_94 (by decide)) (va_cwS 2 hts (zgS zbw mlRX12_149 stX12_lays iniRX12 coX12_lays) rfl rfl rfl (by decide +kernel) ⟨Nat.le_of_ble_eq_true rfl, Nat.le_of_ble_eq_true rfl⟩) rfl hl.1 rfl (Nat.le_of_ble_eq_true rfl) dX12_finishWith_8 ⟨Nat.zero_le _, Nat.zero_le _⟩ (fun G1 H locs hw1 hP hS => ?_)
  obtain ⟨hF1, hcp1⟩ := hw1
  refine lv_aload_n hx hb dX12_finishWith_11 rfl (lv_at hl 0 rfl) ?_
  refine z_get C0 hP (C := RX12) (T := TX12) (N := 21) (ci := 10) (index := 13) (k := 92) (ref := "WetSuitPedalsShoesModel") (zk_lt (rfl : zk 92 = 10) (by decide)) (zd_10 E (rfl : zk 92 = 10) _) rfl (zmi inU_12) 1 (by decide) (zm flRX12_13) rfl (v := .ref (E.1 94)) (rfl) dX12_finishWith_12 ?_
  refine lv_iload_n hx hb dX12_finishWith_15 rfl (lv_at hl 1 rfl) ?_
  refine lv_iload_n hx hb dX12_finishWith_16 rfl (lv_at hl 2 rfl) ?_
  refine z_Si C0 hP hD hA hS (As := [.int (nI a), .int (nI w)]) (rest := [.ref (E.1 94)]) (c_X12_athleteAt l E _ a w) (va_cwS 2 hts (zgS zbw mlRX12_70 stX12_athleteAt iniRX12 coX12_athleteAt) rfl rfl rfl (by decide +kernel) ⟨Nat.le_of_ble_eq_true rfl, Nat.le_of_ble_eq_true rfl⟩) rfl hl.1 rfl (Nat.le_of_ble_eq_true rfl) dX12_finishWith_17 ⟨Nat.zero_le _, Nat.zero_le _⟩ (fun r2 G2 H locs hw2 hP hS => ?_)
  obtain ⟨hr2, rfl⟩ := hw2
  subst hr2
  refine z_eqi (y := (nI (32 + 4 * a + w))) (congrArg nI (by omega)) ?_
  refine lv_bipush (v := (9 : Int32)) hx hb dX12_finishWith_20 (by decide) ?_
  refine lv_aload_n hx hb dX12_finishWith_22 rfl (lv_at hl 0 rfl) ?_
  refine z_get C0 hP (C := RX12) (T := TX12) (N := 21) (ci := 10) (index := 9) (k := 92) (ref := "WetSuitPedalsShoesModel") (zk_lt (rfl : zk 92 = 10) (by decide)) (zd_10 E (rfl : zk 92 = 10) _) rfl (zmi inU_12) 0 (by decide) (zm flRX12_9) rfl (v := .ref (E.1 93)) (rfl) dX12_finishWith_23 ?_
  refine lv_iload_n hx hb dX12_finishWith_26 rfl (lv_at hl 1 rfl) ?_
  refine lv_iload_n hx hb dX12_finishWith_27 rfl (lv_at hl 2 rfl) ?_
  refine z_Si C0 hP hD hA hS (As := [.int (nI a), .int (nI w)]) (rest := [.ref (E.1 93), .int (9 : Int32), .int (nI (32 + 4 * a + w)), .ref (E.1 94)]) (c_X12_athleteAt l E _ a w) (va_cwS 2 hts (zgS zbw mlRX12_70 stX12_athleteAt iniRX12 coX12_athleteAt) rfl rfl rfl (by decide +kernel) ⟨Nat.le_of_ble_eq_true rfl, Nat.le_of_ble_eq_true rfl⟩) rfl hl.1 rfl (Nat.le_of_ble_eq_true rfl) dX12_finishWith_28 ⟨Nat.zero_le _, Nat.zero_le _⟩ (fun r3 G3 H locs hw3 hP hS => ?_)
  obtain ⟨hr3, rfl⟩ := hw3
  subst hr3
  refine z_eqi (y := (nI (32 + 4 * a + w))) (congrArg nI (by omega)) ?_
  refine z_iald C0 hP (k := 93) (i := 32 + 4 * a + w) (v := (r (32 + 4 * a + w))) (rfl : zk 93 = 11) (Nat.lt_of_lt_of_eq (show 32 + 4 * a + w < 102 by omega) (rfl : zl 93 = 102).symm) rfl dX12_finishWith_31 (congrFun ((hF1 _ (by decide)).trans (hM)) _) ?_
  refine lv_iload_n hx hb dX12_finishWith_32 rfl (lv_at hl 3 rfl) ?_
  refine lv_iadd hx hb dX12_finishWith_33 ?_
  refine z_Si C0 hP hD hA hS (As := [.int (9 : Int32), .int ((r (32 + 4 * a + w)) + v)]) (rest := [.int (nI (32 + 4 * a + w)), .ref (E.1 94)]) (c_X12_least l E _ (9 : Int32) ((r (32 + 4 * a + w)) + v)) (va_cwS 2 hts (zgS zbw mlRX12_88 stX12_least iniRX12 coX12_least) rfl rfl rfl (by decide +kernel) ⟨Nat.le_of_ble_eq_true rfl, Nat.le_of_ble_eq_true rfl⟩) rfl hl.1 rfl (Nat.le_of_ble_eq_true rfl) dX12_finishWith_34 ⟨Nat.zero_le _, Nat.zero_le _⟩ (fun r4 G4 H locs hw4 hP hS => ?_)
  obtain ⟨rfl, rfl⟩ := hw4
  refine z_iast C0 hP hD hS (k := 94) (i := 32 + 4 * a + w) (v := (s_min (9 : Int32) ((r (32 + 4 * a + w)) + v))) (F := G1 94) (rfl) (rfl : zk 94 = 11) (Nat.lt_of_lt_of_eq (show 32 + 4 * a + w < 102 by omega) (rfl : zl 94 = 102).symm) rfl dX12_finishWith_37 (fun H locs hP hS => ?_)
  refine lv_aload_n hx hb dX12_finishWith_38 rfl (lv_at hl 0 rfl) ?_
  refine lv_aload_n hx hb dX12_finishWith_39 rfl (lv_at hl 0 rfl) ?_
  refine z_get C0 hP (C := RX12) (T := TX12) (N := 21) (ci := 10) (index := 13) (k := 92) (ref := "WetSuitPedalsShoesModel") (zk_lt (rfl : zk 92 = 10) (by decide)) (zd_10 E (rfl : zk 92 = 10) _) rfl (zmi inU_12) 1 (by decide) (zm flRX12_13) rfl (v := .ref (E.1 94)) (rfl) dX12_finishWith_40 ?_
  refine lv_iload_n hx hb dX12_finishWith_43 rfl (lv_at hl 1 rfl) ?_
  refine z_Vi C0 hP hD hA hS (As := [.ref (E.1 94), .int (nI a)]) (rest := []) (k := 92) (c_X12_finishOf l E _ 94 a n z_lit_Arr102_94 (by omega) ((congrFun (g1_s _ _ _) _).trans ((pk_un (by omega)).trans (((hcp1 0 (by omega)).trans (congrFun (hM) _)).trans (hrn)))) (by omega) (by omega)) (cwV 2 hts (zgV zbw mlRX12_156 imX12_finishOf seX12_finishOf iniRX12 coX12_finishOf) rfl rfl rfl (by decide +kernel) ⟨Nat.le_of_ble_eq_true rfl, Nat.le_of_ble_eq_true rfl⟩) (zk_lt (rfl : zk 92 = 10) (by decide)) (zd_10 E (rfl : zk 92 = 10) _) rfl rfl rfl hl.1 rfl (Nat.le_of_ble_eq_true rfl) dX12_finishWith_44 ⟨Nat.zero_le _, Nat.zero_le _⟩ (fun r5 G5 H locs hw5 hP hS => ?_)
  obtain ⟨hr5, hF5, hrow5⟩ := hw5
  rw [show (g1 G1 94 (upd (G1 94) (32 + 4 * a + w) (s_min (9 : Int32) ((r (32 + 4 * a + w)) + v)))) 94 = (upd (G1 94) (32 + 4 * a + w) (s_min (9 : Int32) ((r (32 + 4 * a + w)) + v))) from g1_s _ _ _] at hr5 hrow5
  subst hr5
  subst hQ_
  exact z_iret C0 hP hS (v := ((m_run (upd (G1 94) (32 + 4 * a + w) (s_min (9 : Int32) ((r (32 + 4 * a + w)) + v))) a (-1) n).2)) (by exact ⟨(q_with_m (fun j hj => (hcp1 j hj).trans (congrFun (hM) j)) (by omega) hn10).symm, (fun k hk => (hF5 k (by omega)).trans ((g1_n (by omega)).trans (hF1 k (by omega))))⟩) dX12_finishWith_47
set_option maxHeartbeats 4000000 in
set_option maxRecDepth 100000 in
theorem c_X12_finishAgainst (l : Launch) (E : zE) (G : zG) (r : Nat → Int32) (n na : Nat) (a i k g : Nat) (hM : G 93 = r) (hrn : r 0 = nI n) (hrna : r 1 = nI na) (hn10 : n ≤ 10) (hna : na ≤ 5) (ha : a < na) (hi : i < n) (hk : k < 4) (hg : g < 4) : zMi l yX12_finishAgainst wsX12_finishAgainst ({ frames := 6, cells := 0, slots := 0, locals := 142 } : Room) E G [.ref (E.1 92), .int (nI a), .int (nI i), .int (nI k), .int (nI g)] (fun r1 G1 => q_try r n a i (nI k) + (if k < g then 5 else 0) = r1 ∧ ∀ k, (k < 94 ∨ (94 < k ∧ k < 100) ∨ 102 < k) → G1 k = G k) := by
  refine zOf (cc := cX12_finishAgainst) (nL := 5) (ret := (some .int)) RX12 (by decide) rfl rfl (Nat.le_of_ble_eq_true rfl) ?_
  intro p_ e_ s_ m_ a_ b_ me_ c_ ls C0 hP hS hl
  have hx := C0.1
  have hb := C0.2.1
  have hts := C0.2.2.2.2.1
  have hD : zD E (zA E s_.heap.size) := C0.2.2.2.2.2.2.2.2
  have hA : ∀ q : Nat, s_.heap.size ≤ q → zA E s_.heap.size q := fun q h => Or.inr h
  refine z_gen (fun Q_ hQ_ => ?_)
  have hl : lv_has ls 5 [(0, .ref (E.1 92)), (1, .int (nI a)), (2, .int (nI i)), (3, .int (nI k)), (4, .int (nI g))] := hl
  refine lv_aload_n hx hb dX12_finishAgainst_0 rfl (lv_at hl 0 rfl) ?_
  refine z_get C0 hP (C := RX12) (T := TX12) (N := 21) (ci := 10) (index := 9) (k := 92) (ref := "WetSuitPedalsShoesModel") (zk_lt (rfl : zk 92 = 10) (by decide)) (zd_10 E (rfl : zk 92 = 10) _) rfl (zmi inU_12) 0 (by decide) (zm flRX12_9) rfl (v := .ref (E.1 93)) (rfl) dX12_finishAgainst_1 ?_
  refine lv_aload_n hx hb dX12_finishAgainst_4 rfl (lv_at hl 0 rfl) ?_
  refine z_get C0 hP (C := RX12) (T := TX12) (N := 21) (ci := 10) (index := 13) (k := 92) (ref := "WetSuitPedalsShoesModel") (zk_lt (rfl : zk 92 = 10) (by decide)) (zd_10 E (rfl : zk 92 = 10) _) rfl (zmi inU_12) 1 (by decide) (zm flRX12_13) rfl (v := .ref (E.1 94)) (rfl) dX12_finishAgainst_5 ?_
  refine z_Sv C0 hP hD hA hS (As := [.ref (E.1 93), .ref (E.1 94)]) (rest := []) (c_X12_lays l E _ 93 94 z_lit_Arr102_93 z_lit_Arr102_94 (by decide)) (va_cwS 2 hts (zgS zbw mlRX12_149 stX12_lays iniRX12 coX12_lays) rfl rfl rfl (by decide +kernel) ⟨Nat.le_of_ble_eq_true rfl, Nat.le_of_ble_eq_true rfl⟩) rfl hl.1 rfl (Nat.le_of_ble_eq_true rfl) dX12_finishAgainst_8 ⟨Nat.zero_le _, Nat.zero_le _⟩ (fun G1 H locs hw1 hP hS => ?_)
  obtain ⟨hF1, hcp1⟩ := hw1
  refine lv_aload_n hx hb dX12_finishAgainst_11 rfl (lv_at hl 0 rfl) ?_
  refine z_get C0 hP (C := RX12) (T := TX12) (N := 21) (ci := 10) (index := 13) (k := 92) (ref := "WetSuitPedalsShoesModel") (zk_lt (rfl : zk 92 = 10) (by decide)) (zd_10 E (rfl : zk 92 = 10) _) rfl (zmi inU_12) 1 (by decide) (zm flRX12_13) rfl (v := .ref (E.1 94)) (rfl) dX12_finishAgainst_12 ?_
  refine lv_iload_n hx hb dX12_finishAgainst_15 rfl (lv_at hl 1 rfl) ?_
  refine lv_iload_n hx hb dX12_finishAgainst_16 rfl (lv_at hl 2 rfl) ?_
  refine z_Si C0 hP hD hA hS (As := [.int (nI a), .int (nI i)]) (rest := [.ref (E.1 94)]) (c_X12_tried l E _ a i) (va_cwS 2 hts (zgS zbw mlRX12_91 stX12_tried iniRX12 coX12_tried) rfl rfl rfl (by decide +kernel) ⟨Nat.le_of_ble_eq_true rfl, Nat.le_of_ble_eq_true rfl⟩) rfl hl.1 rfl (Nat.le_of_ble_eq_true rfl) dX12_finishAgainst_17 ⟨Nat.zero_le _, Nat.zero_le _⟩ (fun r2 G2 H locs hw2 hP hS => ?_)
  obtain ⟨hr2, rfl⟩ := hw2
  subst hr2
  refine z_eqi (y := (nI (52 + 10 * a + i))) (congrArg nI (by omega)) ?_
  refine lv_iload_n hx hb dX12_finishAgainst_20 rfl (lv_at hl 3 rfl) ?_
  refine z_iast C0 hP hD hS (k := 94) (i := 52 + 10 * a + i) (v := (nI k)) (F := G1 94) (rfl) (rfl : zk 94 = 11) (Nat.lt_of_lt_of_eq (show 52 + 10 * a + i < 102 by omega) (rfl : zl 94 = 102).symm) rfl dX12_finishAgainst_21 (fun H locs hP hS => ?_)
  refine lv_aload_n hx hb dX12_finishAgainst_22 rfl (lv_at hl 0 rfl) ?_
  refine lv_aload_n hx hb dX12_finishAgainst_23 rfl (lv_at hl 0 rfl) ?_
  refine z_get C0 hP (C := RX12) (T := TX12) (N := 21) (ci := 10) (index := 13) (k := 92) (ref := "WetSuitPedalsShoesModel") (zk_lt (rfl : zk 92 = 10) (by decide)) (zd_10 E (rfl : zk 92 = 10) _) rfl (zmi inU_12) 1 (by decide) (zm flRX12_13) rfl (v := .ref (E.1 94)) (rfl) dX12_finishAgainst_24 ?_
  refine lv_iload_n hx hb dX12_finishAgainst_27 rfl (lv_at hl 1 rfl) ?_
  refine z_Vi C0 hP hD hA hS (As := [.ref (E.1 94), .int (nI a)]) (rest := []) (k := 92) (c_X12_finishOf l E _ 94 a n z_lit_Arr102_94 (by omega) ((congrFun (g1_s _ _ _) _).trans ((pk_un (by omega)).trans (((hcp1 0 (by omega)).trans (congrFun (hM) _)).trans (hrn)))) (by omega) (by omega)) (cwV 2 hts (zgV zbw mlRX12_156 imX12_finishOf seX12_finishOf iniRX12 coX12_finishOf) rfl rfl rfl (by decide +kernel) ⟨Nat.le_of_ble_eq_true rfl, Nat.le_of_ble_eq_true rfl⟩) (zk_lt (rfl : zk 92 = 10) (by decide)) (zd_10 E (rfl : zk 92 = 10) _) rfl rfl rfl hl.1 rfl (Nat.le_of_ble_eq_true rfl) dX12_finishAgainst_28 ⟨Nat.zero_le _, Nat.zero_le _⟩ (fun r3 G3 H locs hw3 hP hS => ?_)
  obtain ⟨hr3, hF3, hrow3⟩ := hw3
  rw [show (g1 G1 94 (upd (G1 94) (52 + 10 * a + i) (nI k))) 94 = (upd (G1 94) (52 + 10 * a + i) (nI k)) from g1_s _ _ _] at hr3 hrow3
  subst hr3
  refine lv_iload_n hx hb dX12_finishAgainst_31 rfl (lv_at hl 3 rfl) ?_
  refine lv_iload hx hb dX12_finishAgainst_32 (lv_at hl 4 rfl) ?_
  refine z_N_ge hx hb (a := k) (b := g) (tgt := 41) dX12_finishAgainst_34 rfl rfl (by omega) (by omega) (by decide) (fun c_34 => ?_) (fun c_34 => ?_)
  · skip
    refine lv_iconst (v := (0 : Int32)) hx hb dX12_finishAgainst_41 (by decide) ?_
    refine lv_iadd hx hb dX12_finishAgainst_42 ?_
    subst hQ_
    exact z_iret C0 hP hS (v := (((m_run (upd (G1 94) (52 + 10 * a + i) (nI k)) a (-1) n).2) + (0 : Int32))) (by exact ⟨(by rw [q_try_m (fun j hj => (hcp1 j hj).trans (congrFun (hM) j)) (by omega) hn10]; simp [c_34]), (fun k hk => (hF3 k (by omega)).trans ((g1_n (by omega)).trans (hF1 k (by omega))))⟩) dX12_finishAgainst_43
  · skip
    refine lv_iconst (v := (5 : Int32)) hx hb dX12_finishAgainst_37 (by decide) ?_
    refine lv_goto (tgt := 42) hx hb dX12_finishAgainst_38 (by decide) ?_
    refine lv_iadd hx hb dX12_finishAgainst_42 ?_
    subst hQ_
    exact z_iret C0 hP hS (v := (((m_run (upd (G1 94) (52 + 10 * a + i) (nI k)) a (-1) n).2) + (5 : Int32))) (by exact ⟨(by rw [q_try_m (fun j hj => (hcp1 j hj).trans (congrFun (hM) j)) (by omega) hn10]; simp [c_34]), (fun k hk => (hF3 k (by omega)).trans ((g1_n (by omega)).trans (hF1 k (by omega))))⟩) dX12_finishAgainst_43
set_option maxHeartbeats 4000000 in
set_option maxRecDepth 100000 in
theorem c_X12_by (l : Launch) (E : zE) (G : zG) (r : Nat → Int32) (n na : Nat) (athlete sect what : Int32) (hM : G 93 = r) (hrn : r 0 = nI n) (hrna : r 1 = nI na) (hn10 : n ≤ 10) (hna : na ≤ 5) : zMi l yX12_by wsX12_by ({ frames := 6, cells := 0, slots := 0, locals := 142 } : Room) E G [.ref (E.1 92), .int athlete, .int sect, .int what] (fun r1 G1 => zQm (A_by r n na athlete sect what) G r1 G1) := by
  refine zOf (cc := cX12_by) (nL := 5) (ret := (some .int)) RX12 (by decide) rfl rfl (Nat.le_of_ble_eq_true rfl) ?_
  intro p_ e_ s_ m_ a_ b_ me_ c_ ls C0 hP hS hl
  have hx := C0.1
  have hb := C0.2.1
  have hts := C0.2.2.2.2.1
  have hD : zD E (zA E s_.heap.size) := C0.2.2.2.2.2.2.2.2
  have hA : ∀ q : Nat, s_.heap.size ≤ q → zA E s_.heap.size q := fun q h => Or.inr h
  refine z_gen (fun Q_ hQ_ => ?_)
  have hl : lv_has ls 5 [(0, .ref (E.1 92)), (1, .int athlete), (2, .int sect), (3, .int what)] := hl
  refine lv_aload_n hx hb dX12_by_0 rfl (lv_at hl 0 rfl) ?_
  refine lv_iload_n hx hb dX12_by_1 rfl (lv_at hl 1 rfl) ?_
  refine z_Vi C0 hP hD hA hS (As := [.int athlete]) (rest := []) (k := 92) (c_X12_isAthlete l E _ na athlete ((congrFun (hM) _).trans (hrna)) (by omega)) (cwV 1 hts (zgV zbw mlRX12_136 imX12_isAthlete seX12_isAthlete iniRX12 coX12_isAthlete) rfl rfl rfl (by decide +kernel) ⟨Nat.le_of_ble_eq_true rfl, Nat.le_of_ble_eq_true rfl⟩) (zk_lt (rfl : zk 92 = 10) (by decide)) (zd_10 E (rfl : zk 92 = 10) _) rfl rfl rfl hl.1 rfl (Nat.le_of_ble_eq_true rfl) dX12_by_2 ⟨Nat.zero_le _, Nat.zero_le _⟩ (fun r1 G1 H locs hw1 hP hS => ?_)
  rcases hw1 with ⟨rfl, rfl, ia, hia, rfl⟩ | ⟨rfl, rfl, hno1⟩
  · skip
    have hz_ia := zin_t hia (by omega)
    have hy_ia : zix (nI ia) = ia := zix_n (by omega)
    refine lv_if_eq (tgt := 16) hx hb dX12_by_5 (by decide) (fun h_ => absurd h_ (by decide)) (fun _ => ?_)
    refine lv_aload_n hx hb dX12_by_8 rfl (lv_at hl 0 rfl) ?_
    refine lv_iload_n hx hb dX12_by_9 rfl (lv_at hl 2 rfl) ?_
    refine z_Vi C0 hP hD hA hS (As := [.int sect]) (rest := []) (k := 92) (c_X12_isSection l E _ n sect ((congrFun (hM) _).trans (hrn)) (by omega)) (cwV 1 hts (zgV zbw mlRX12_139 imX12_isSection seX12_isSection iniRX12 coX12_isSection) rfl rfl rfl (by decide +kernel) ⟨Nat.le_of_ble_eq_true rfl, Nat.le_of_ble_eq_true rfl⟩) (zk_lt (rfl : zk 92 = 10) (by decide)) (zd_10 E (rfl : zk 92 = 10) _) rfl rfl rfl hl.1 rfl (Nat.le_of_ble_eq_true rfl) dX12_by_10 ⟨Nat.zero_le _, Nat.zero_le _⟩ (fun r2 G2 H locs hw2 hP hS => ?_)
    rcases hw2 with ⟨rfl, rfl, is, his, rfl⟩ | ⟨rfl, rfl, hno2⟩
    · skip
      have hz_is := zin_t his (by omega)
      have hy_is : zix (nI is) = is := zix_n (by omega)
      refine lv_if_ne (tgt := 22) hx hb dX12_by_13 (by decide) (fun _ => ?_) (fun h_ => absurd h_ (by decide))
      refine lv_iload_n hx hb dX12_by_22 rfl (lv_at hl 3 rfl) ?_
      refine lv_iconst (v := (0 : Int32)) hx hb dX12_by_23 (by decide) ?_
      refine lv_iconst (v := (2 : Int32)) hx hb dX12_by_24 (by decide) ?_
      refine z_Si C0 hP hD hA hS (As := [.int what, .int (0 : Int32), .int (2 : Int32)]) (rest := []) (c_X12_isIn l E _ what (0 : Int32) (2 : Int32)) (va_cwS 3 hts (zgS zbw mlRX12_62 stX12_isIn iniRX12 coX12_isIn) rfl rfl rfl (by decide +kernel) ⟨Nat.le_of_ble_eq_true rfl, Nat.le_of_ble_eq_true rfl⟩) rfl hl.1 rfl (Nat.le_of_ble_eq_true rfl) dX12_by_25 ⟨Nat.zero_le _, Nat.zero_le _⟩ (fun r3 G3 H locs hw3 hP hS => ?_)
      rcases hw3 with ⟨rfl, rfl, hi1_3, hi2_3⟩ | ⟨rfl, rfl, hi0_3⟩
      · skip
        have hi3_3 := Int32.not_lt.mpr hi1_3
        have hi4_3 := Int32.not_lt.mpr hi2_3
        refine lv_if_ne (tgt := 38) hx hb dX12_by_28 (by decide) (fun _ => ?_) (fun h_ => absurd h_ (by decide))
        refine lv_aload_n hx hb dX12_by_38 rfl (lv_at hl 0 rfl) ?_
        refine lv_aload_n hx hb dX12_by_39 rfl (lv_at hl 0 rfl) ?_
        refine z_get C0 hP (C := RX12) (T := TX12) (N := 21) (ci := 10) (index := 9) (k := 92) (ref := "WetSuitPedalsShoesModel") (zk_lt (rfl : zk 92 = 10) (by decide)) (zd_10 E (rfl : zk 92 = 10) _) rfl (zmi inU_12) 0 (by decide) (zm flRX12_9) rfl (v := .ref (E.1 93)) (rfl) dX12_by_40 ?_
        refine lv_iload_n hx hb dX12_by_43 rfl (lv_at hl 1 rfl) ?_
        refine z_Vi C0 hP hD hA hS (As := [.ref (E.1 93), .int (nI ia)]) (rest := []) (k := 92) (c_X12_finishOf l E _ 93 ia n z_lit_Arr102_93 (by omega) ((congrFun (hM) _).trans (hrn)) (by omega) (by omega)) (cwV 2 hts (zgV zbw mlRX12_156 imX12_finishOf seX12_finishOf iniRX12 coX12_finishOf) rfl rfl rfl (by decide +kernel) ⟨Nat.le_of_ble_eq_true rfl, Nat.le_of_ble_eq_true rfl⟩) (zk_lt (rfl : zk 92 = 10) (by decide)) (zd_10 E (rfl : zk 92 = 10) _) rfl rfl rfl hl.1 rfl (Nat.le_of_ble_eq_true rfl) dX12_by_44 ⟨Nat.zero_le _, Nat.zero_le _⟩ (fun r4 G4 H locs hw4 hP hS => ?_)
        obtain ⟨hr4, hF4, hrow4⟩ := hw4
        rw [show G 93 = r from hM] at hr4 hrow4
        subst hr4
        refine lv_istore (lv' := [(4, .int (q_fin r n ia)), (0, .ref (E.1 92)), (1, .int (nI ia)), (2, .int (nI is)), (3, .int what)]) hx hb dX12_by_47 hl (by decide) rfl (fun ls hl => ?_)
        refine lv_iload_n hx hb dX12_by_49 rfl (lv_at hl 4 rfl) ?_
        refine lv_if_ne (tgt := 62) hx hb dX12_by_50 (by decide) (fun c_50 => ?_) (fun c_50 => ?_)
        · skip
          refine lv_iload_n hx hb dX12_by_62 rfl (lv_at hl 4 rfl) ?_
          refine lv_iconst (v := (1 : Int32)) hx hb dX12_by_63 (by decide) ?_
          refine lv_icmp_ne (tgt := 76) hx hb dX12_by_64 (by decide) (fun c_64 => ?_) (fun c_64 => ?_)
          · skip
            refine lv_aload_n hx hb dX12_by_76 rfl (lv_at hl 1 rfl) ?_
            refine z_get C0 hP (C := RX12) (T := TX12) (N := 21) (ci := 10) (index := 37) (k := 92) (ref := "WetSuitPedalsShoesModel") (zk_lt (rfl : zk 92 = 10) (by decide)) (zd_10 E (rfl : zk 92 = 10) _) rfl (zmi inU_12) 12 (by decide) (zm flRX12_37) rfl (v := .ref (E.1 102)) (rfl) dX12_by_77 ?_
            refine lv_iload_n hx hb dX12_by_80 rfl (lv_at hl 3 rfl) ?_
            refine z_iald C0 hP (k := 102) (i := is) (v := (q_all r ia is)) (rfl : zk 102 = 11) (Nat.lt_of_lt_of_eq (show is < 10 by omega) (rfl : zl 102 = 10).symm) rfl dX12_by_81 ((hrow4 is (by omega)).2.2) ?_
            subst hQ_
            exact z_iret C0 hP hS (v := (q_all r ia is)) (by exact zQm_of (k := 0) (by simp [A_by, hz_ia, hy_ia, hz_is, hy_is, hi3_3, hi4_3, c_50, c_64]) (fun k hk => hF4 k (by omega)) (hF4 _ (by decide))) dX12_by_82
          · skip
            refine lv_aload_n hx hb dX12_by_67 rfl (lv_at hl 1 rfl) ?_
            refine z_get C0 hP (C := RX12) (T := TX12) (N := 21) (ci := 10) (index := 34) (k := 92) (ref := "WetSuitPedalsShoesModel") (zk_lt (rfl : zk 92 = 10) (by decide)) (zd_10 E (rfl : zk 92 = 10) _) rfl (zmi inU_12) 11 (by decide) (zm flRX12_34) rfl (v := .ref (E.1 101)) (rfl) dX12_by_68 ?_
            refine lv_iload_n hx hb dX12_by_71 rfl (lv_at hl 3 rfl) ?_
            refine z_iald C0 hP (k := 101) (i := is) (v := (q_leg r ia is)) (rfl : zk 101 = 11) (Nat.lt_of_lt_of_eq (show is < 10 by omega) (rfl : zl 101 = 10).symm) rfl dX12_by_72 ((hrow4 is (by omega)).2.1) ?_
            refine lv_goto (tgt := 82) hx hb dX12_by_73 (by decide) ?_
            subst hQ_
            exact z_iret C0 hP hS (v := (q_leg r ia is)) (by exact zQm_of (k := 0) (by simp [A_by, hz_ia, hy_ia, hz_is, hy_is, hi3_3, hi4_3, c_50, c_64]) (fun k hk => hF4 k (by omega)) (hF4 _ (by decide))) dX12_by_82
        · skip
          refine lv_aload_n hx hb dX12_by_53 rfl (lv_at hl 1 rfl) ?_
          refine z_get C0 hP (C := RX12) (T := TX12) (N := 21) (ci := 10) (index := 31) (k := 92) (ref := "WetSuitPedalsShoesModel") (zk_lt (rfl : zk 92 = 10) (by decide)) (zd_10 E (rfl : zk 92 = 10) _) rfl (zmi inU_12) 10 (by decide) (zm flRX12_31) rfl (v := .ref (E.1 100)) (rfl) dX12_by_54 ?_
          refine lv_iload_n hx hb dX12_by_57 rfl (lv_at hl 3 rfl) ?_
          refine z_iald C0 hP (k := 100) (i := is) (v := (m_sc r ia (-1) is)) (rfl : zk 100 = 11) (Nat.lt_of_lt_of_eq (show is < 10 by omega) (rfl : zl 100 = 10).symm) rfl dX12_by_58 ((hrow4 is (by omega)).1) ?_
          refine lv_goto (tgt := 82) hx hb dX12_by_59 (by decide) ?_
          subst hQ_
          exact z_iret C0 hP hS (v := (m_sc r ia (-1) is)) (by exact zQm_of (k := 0) (by simp [A_by, hz_ia, hy_ia, hz_is, hy_is, hi3_3, hi4_3, c_50]) (fun k hk => hF4 k (by omega)) (hF4 _ (by decide))) dX12_by_82
      · skip
        have hi5_3 := z_nin hi0_3
        refine lv_if_ne (tgt := 38) hx hb dX12_by_28 (by decide) (fun h_ => absurd (by decide) h_) (fun _ => ?_)
        refine lv_aload_n hx hb dX12_by_31 rfl (lv_at hl 0 rfl) ?_
        refine lv_bipush (v := (-2 : Int32)) hx hb dX12_by_32 (by decide) ?_
        refine z_Vi C0 hP hD hA hS (As := [.int (-2 : Int32)]) (rest := []) (k := 92) (c_X12_no l E _ (-2 : Int32) 2 (by decide) (by decide)) (cwV 1 hts (zgV zbw mlRX12_56 imX12_no seX12_no iniRX12 coX12_no) rfl rfl rfl (by decide +kernel) ⟨Nat.le_of_ble_eq_true rfl, Nat.le_of_ble_eq_true rfl⟩) (zk_lt (rfl : zk 92 = 10) (by decide)) (zd_10 E (rfl : zk 92 = 10) _) rfl rfl rfl hl.1 rfl (Nat.le_of_ble_eq_true rfl) dX12_by_34 ⟨Nat.zero_le _, Nat.zero_le _⟩ (fun r5 G5 H locs hw5 hP hS => ?_)
        obtain ⟨rfl, rfl⟩ := hw5
        subst hQ_
        exact z_iret C0 hP hS (v := (-2 : Int32)) (by exact zQm_of (k := 2) (by simp [A_by, hz_ia, hy_ia, hz_is, hy_is, hi5_3]) (fun k hk => g1_n (by omega)) (g1_s _ _ _)) dX12_by_37
    · skip
      have hz_is := zin_f (by omega) hno2
      refine lv_if_ne (tgt := 22) hx hb dX12_by_13 (by decide) (fun h_ => absurd (by decide) h_) (fun _ => ?_)
      refine lv_aload_n hx hb dX12_by_16 rfl (lv_at hl 0 rfl) ?_
      refine lv_iconst (v := (-1 : Int32)) hx hb dX12_by_17 (by decide) ?_
      refine z_Vi C0 hP hD hA hS (As := [.int (-1 : Int32)]) (rest := []) (k := 92) (c_X12_no l E _ (-1 : Int32) 1 (by decide) (by decide)) (cwV 1 hts (zgV zbw mlRX12_56 imX12_no seX12_no iniRX12 coX12_no) rfl rfl rfl (by decide +kernel) ⟨Nat.le_of_ble_eq_true rfl, Nat.le_of_ble_eq_true rfl⟩) (zk_lt (rfl : zk 92 = 10) (by decide)) (zd_10 E (rfl : zk 92 = 10) _) rfl rfl rfl hl.1 rfl (Nat.le_of_ble_eq_true rfl) dX12_by_18 ⟨Nat.zero_le _, Nat.zero_le _⟩ (fun r6 G6 H locs hw6 hP hS => ?_)
      obtain ⟨rfl, rfl⟩ := hw6
      subst hQ_
      exact z_iret C0 hP hS (v := (-1 : Int32)) (by exact zQm_of (k := 1) (by simp [A_by, hz_ia, hy_ia, hz_is]) (fun k hk => g1_n (by omega)) (g1_s _ _ _)) dX12_by_21
  · skip
    have hz_ia := zin_f (by omega) hno1
    refine lv_if_eq (tgt := 16) hx hb dX12_by_5 (by decide) (fun _ => ?_) (fun h_ => absurd (by decide) h_)
    refine lv_aload_n hx hb dX12_by_16 rfl (lv_at hl 0 rfl) ?_
    refine lv_iconst (v := (-1 : Int32)) hx hb dX12_by_17 (by decide) ?_
    refine z_Vi C0 hP hD hA hS (As := [.int (-1 : Int32)]) (rest := []) (k := 92) (c_X12_no l E _ (-1 : Int32) 1 (by decide) (by decide)) (cwV 1 hts (zgV zbw mlRX12_56 imX12_no seX12_no iniRX12 coX12_no) rfl rfl rfl (by decide +kernel) ⟨Nat.le_of_ble_eq_true rfl, Nat.le_of_ble_eq_true rfl⟩) (zk_lt (rfl : zk 92 = 10) (by decide)) (zd_10 E (rfl : zk 92 = 10) _) rfl rfl rfl hl.1 rfl (Nat.le_of_ble_eq_true rfl) dX12_by_18 ⟨Nat.zero_le _, Nat.zero_le _⟩ (fun r7 G7 H locs hw7 hP hS => ?_)
    obtain ⟨rfl, rfl⟩ := hw7
    subst hQ_
    exact z_iret C0 hP hS (v := (-1 : Int32)) (by exact zQm_of (k := 1) (by simp [A_by, hz_ia]) (fun k hk => g1_n (by omega)) (g1_s _ _ _)) dX12_by_21
set_option maxHeartbeats 4000000 in
set_option maxRecDepth 100000 in
theorem c_X12_finish (l : Launch) (E : zE) (G : zG) (r : Nat → Int32) (n na : Nat) (athlete what : Int32) (hM : G 93 = r) (hrn : r 0 = nI n) (hrna : r 1 = nI na) (hn10 : n ≤ 10) (hna : na ≤ 5) : zMi l yX12_finish wsX12_finish ({ frames := 6, cells := 0, slots := 0, locals := 142 } : Room) E G [.ref (E.1 92), .int athlete, .int what] (fun r1 G1 => zQm (A_finish r n na athlete what) G r1 G1) := by
  refine zOf (cc := cX12_finish) (nL := 6) (ret := (some .int)) RX12 (by decide) rfl rfl (Nat.le_of_ble_eq_true rfl) ?_
  intro p_ e_ s_ m_ a_ b_ me_ c_ ls C0 hP hS hl
  have hx := C0.1
  have hb := C0.2.1
  have hts := C0.2.2.2.2.1
  have hD : zD E (zA E s_.heap.size) := C0.2.2.2.2.2.2.2.2
  have hA : ∀ q : Nat, s_.heap.size ≤ q → zA E s_.heap.size q := fun q h => Or.inr h
  refine z_gen (fun Q_ hQ_ => ?_)
  have hl : lv_has ls 6 [(0, .ref (E.1 92)), (1, .int athlete), (2, .int what)] := hl
  refine lv_aload_n hx hb dX12_finish_0 rfl (lv_at hl 0 rfl) ?_
  refine lv_iload_n hx hb dX12_finish_1 rfl (lv_at hl 1 rfl) ?_
  refine z_Vi C0 hP hD hA hS (As := [.int athlete]) (rest := []) (k := 92) (c_X12_isAthlete l E _ na athlete ((congrFun (hM) _).trans (hrna)) (by omega)) (cwV 1 hts (zgV zbw mlRX12_136 imX12_isAthlete seX12_isAthlete iniRX12 coX12_isAthlete) rfl rfl rfl (by decide +kernel) ⟨Nat.le_of_ble_eq_true rfl, Nat.le_of_ble_eq_true rfl⟩) (zk_lt (rfl : zk 92 = 10) (by decide)) (zd_10 E (rfl : zk 92 = 10) _) rfl rfl rfl hl.1 rfl (Nat.le_of_ble_eq_true rfl) dX12_finish_2 ⟨Nat.zero_le _, Nat.zero_le _⟩ (fun r1 G1 H locs hw1 hP hS => ?_)
  rcases hw1 with ⟨rfl, rfl, ia, hia, rfl⟩ | ⟨rfl, rfl, hno1⟩
  · skip
    have hz_ia := zin_t hia (by omega)
    have hy_ia : zix (nI ia) = ia := zix_n (by omega)
    refine lv_if_ne (tgt := 14) hx hb dX12_finish_5 (by decide) (fun _ => ?_) (fun h_ => absurd h_ (by decide))
    refine lv_iload_n hx hb dX12_finish_14 rfl (lv_at hl 2 rfl) ?_
    refine lv_iconst (v := (0 : Int32)) hx hb dX12_finish_15 (by decide) ?_
    refine lv_iconst (v := (2 : Int32)) hx hb dX12_finish_16 (by decide) ?_
    refine z_Si C0 hP hD hA hS (As := [.int what, .int (0 : Int32), .int (2 : Int32)]) (rest := []) (c_X12_isIn l E _ what (0 : Int32) (2 : Int32)) (va_cwS 3 hts (zgS zbw mlRX12_62 stX12_isIn iniRX12 coX12_isIn) rfl rfl rfl (by decide +kernel) ⟨Nat.le_of_ble_eq_true rfl, Nat.le_of_ble_eq_true rfl⟩) rfl hl.1 rfl (Nat.le_of_ble_eq_true rfl) dX12_finish_17 ⟨Nat.zero_le _, Nat.zero_le _⟩ (fun r2 G2 H locs hw2 hP hS => ?_)
    rcases hw2 with ⟨rfl, rfl, hi1_2, hi2_2⟩ | ⟨rfl, rfl, hi0_2⟩
    · skip
      have hi3_2 := Int32.not_lt.mpr hi1_2
      have hi4_2 := Int32.not_lt.mpr hi2_2
      refine lv_if_ne (tgt := 30) hx hb dX12_finish_20 (by decide) (fun _ => ?_) (fun h_ => absurd h_ (by decide))
      refine lv_aload_n hx hb dX12_finish_30 rfl (lv_at hl 0 rfl) ?_
      refine lv_aload_n hx hb dX12_finish_31 rfl (lv_at hl 0 rfl) ?_
      refine z_get C0 hP (C := RX12) (T := TX12) (N := 21) (ci := 10) (index := 9) (k := 92) (ref := "WetSuitPedalsShoesModel") (zk_lt (rfl : zk 92 = 10) (by decide)) (zd_10 E (rfl : zk 92 = 10) _) rfl (zmi inU_12) 0 (by decide) (zm flRX12_9) rfl (v := .ref (E.1 93)) (rfl) dX12_finish_32 ?_
      refine lv_iload_n hx hb dX12_finish_35 rfl (lv_at hl 1 rfl) ?_
      refine z_Vi C0 hP hD hA hS (As := [.ref (E.1 93), .int (nI ia)]) (rest := []) (k := 92) (c_X12_finishOf l E _ 93 ia n z_lit_Arr102_93 (by omega) ((congrFun (hM) _).trans (hrn)) (by omega) (by omega)) (cwV 2 hts (zgV zbw mlRX12_156 imX12_finishOf seX12_finishOf iniRX12 coX12_finishOf) rfl rfl rfl (by decide +kernel) ⟨Nat.le_of_ble_eq_true rfl, Nat.le_of_ble_eq_true rfl⟩) (zk_lt (rfl : zk 92 = 10) (by decide)) (zd_10 E (rfl : zk 92 = 10) _) rfl rfl rfl hl.1 rfl (Nat.le_of_ble_eq_true rfl) dX12_finish_36 ⟨Nat.zero_le _, Nat.zero_le _⟩ (fun r3 G3 H locs hw3 hP hS => ?_)
      obtain ⟨hr3, hF3, hrow3⟩ := hw3
      rw [show G 93 = r from hM] at hr3 hrow3
      subst hr3
      refine lv_istore_n (lv' := [(3, .int (q_fin r n ia)), (0, .ref (E.1 92)), (1, .int (nI ia)), (2, .int what)]) hx hb dX12_finish_39 rfl hl (by decide) rfl (fun ls hl => ?_)
      refine lv_iload_n hx hb dX12_finish_40 rfl (lv_at hl 3 rfl) ?_
      refine lv_if_ne (tgt := 46) hx hb dX12_finish_41 (by decide) (fun c_41 => ?_) (fun c_41 => ?_)
      · skip
        refine lv_iload_n hx hb dX12_finish_46 rfl (lv_at hl 3 rfl) ?_
        refine lv_iconst (v := (1 : Int32)) hx hb dX12_finish_47 (by decide) ?_
        refine lv_icmp_ne (tgt := 87) hx hb dX12_finish_48 (by decide) (fun c_48 => ?_) (fun c_48 => ?_)
        · skip
          refine lv_iconst (v := (1 : Int32)) hx hb dX12_finish_87 (by decide) ?_
          refine lv_istore (lv' := [(4, .int (1 : Int32)), (3, .int (q_fin r n ia)), (0, .ref (E.1 92)), (1, .int (nI ia)), (2, .int what)]) hx hb dX12_finish_88 hl (by decide) rfl (fun ls hl => ?_)
          refine lv_iconst (v := (0 : Int32)) hx hb dX12_finish_90 (by decide) ?_
          refine lv_istore (lv' := [(5, .int (0 : Int32)), (4, .int (1 : Int32)), (3, .int (q_fin r n ia)), (0, .ref (E.1 92)), (1, .int (nI ia)), (2, .int what)]) hx hb dX12_finish_91 hl (by decide) rfl (fun ls hl => ?_)
          have cut_93 : ∀ (fuel : Nat), ∀ (i k : Nat) (Gc : zG) (H : Heap) (locs : List Loc) (ls : Array Slot), (i ≤ na) → (k = 1 + s_cnt (fun b => decide ((m_run r b (-1) n).2 < q_fin r n ia)) i) → (∀ k, (k < 100 ∨ 102 < k) → Gc k = G k) → zP E Gc H → va_S (zA E s_.heap.size) s_.heap H locs → lv_has ls 6 [(0, .ref (E.1 92)), (1, .int (nI ia)), (2, .int what), (3, .int (q_fin r n ia)), (4, .int (nI k)), (5, .int (nI i))] → na - i < fuel → W p_ l e_ ({ frames := 6, cells := 0, slots := 0, locals := 142 } : Room) s_ m_ a_ b_ me_ c_ H locs 0 0 Q_ (F0 m_ 93 ls []) := by
            intro fuel
            induction fuel with
            | zero =>
              intro i k  Gc  H locs ls hin hk hFc hP hS hl hfu
              exact absurd hfu (Nat.not_lt_zero _)
            | succ fuel ih_93 =>
              intro i k  Gc  H locs ls hin hk hFc hP hS hl hfu_93
              refine lv_iload hx hb dX12_finish_93 (lv_at hl 5 rfl) ?_
              refine lv_aload_n hx hb dX12_finish_95 rfl (lv_at hl 0 rfl) ?_
              refine z_get C0 hP (C := RX12) (T := TX12) (N := 21) (ci := 10) (index := 9) (k := 92) (ref := "WetSuitPedalsShoesModel") (zk_lt (rfl : zk 92 = 10) (by decide)) (zd_10 E (rfl : zk 92 = 10) _) rfl (zmi inU_12) 0 (by decide) (zm flRX12_9) rfl (v := .ref (E.1 93)) (rfl) dX12_finish_96 ?_
              refine lv_iconst (v := (1 : Int32)) hx hb dX12_finish_99 (by decide) ?_
              refine z_iald C0 hP (k := 93) (i := 1) (v := (nI na)) (rfl : zk 93 = 11) (Nat.lt_of_lt_of_eq (show 1 < 102 by decide) (rfl : zl 93 = 102).symm) rfl dX12_finish_100 ((congrFun ((hFc _ (by decide)).trans (hM)) _).trans (hrna)) ?_
              refine z_N_ge hx hb (a := i) (b := na) (tgt := 134) dX12_finish_101 rfl rfl (by omega) (by omega) (by decide) (fun c_101 => ?_) (fun c_101 => ?_)
              · skip
                have e9 := (show q_place r n na (q_fin r n ia) = nI k by unfold q_place; rw [hk, show i = na by omega])
                refine lv_iload hx hb dX12_finish_134 (lv_at hl 4 rfl) ?_
                subst hQ_
                exact z_iret C0 hP hS (v := (nI k)) (by exact zQm_of (k := 0) (by simp [A_finish, hz_ia, hy_ia, hi3_2, hi4_2, c_41, c_48, c_101, e9]) (fun k hk => hFc k (by omega)) (hFc _ (by decide))) dX12_finish_136
              · skip
                refine lv_iload hx hb dX12_finish_104 (lv_at hl 4 rfl) ?_
                refine lv_aload_n hx hb dX12_finish_106 rfl (lv_at hl 0 rfl) ?_
                refine lv_aload_n hx hb dX12_finish_107 rfl (lv_at hl 0 rfl) ?_
                refine z_get C0 hP (C := RX12) (T := TX12) (N := 21) (ci := 10) (index := 9) (k := 92) (ref := "WetSuitPedalsShoesModel") (zk_lt (rfl : zk 92 = 10) (by decide)) (zd_10 E (rfl : zk 92 = 10) _) rfl (zmi inU_12) 0 (by decide) (zm flRX12_9) rfl (v := .ref (E.1 93)) (rfl) dX12_finish_108 ?_
                refine lv_iload hx hb dX12_finish_111 (lv_at hl 5 rfl) ?_
                refine z_Vi C0 hP hD hA hS (As := [.ref (E.1 93), .int (nI i)]) (rest := [.int (nI k)]) (k := 92) (c_X12_finishOf l E _ 93 i n z_lit_Arr102_93 (by omega) ((congrFun ((hFc _ (by decide)).trans (hM)) _).trans (hrn)) (by omega) (by omega)) (cwV 2 hts (zgV zbw mlRX12_156 imX12_finishOf seX12_finishOf iniRX12 coX12_finishOf) rfl rfl rfl (by decide +kernel) ⟨Nat.le_of_ble_eq_true rfl, Nat.le_of_ble_eq_true rfl⟩) (zk_lt (rfl : zk 92 = 10) (by decide)) (zd_10 E (rfl : zk 92 = 10) _) rfl rfl rfl hl.1 rfl (Nat.le_of_ble_eq_true rfl) dX12_finish_113 ⟨Nat.zero_le _, Nat.zero_le _⟩ (fun r4 G4 H locs hw4 hP hS => ?_)
                obtain ⟨hr4, hF4, hrow4⟩ := hw4
                rw [show Gc 93 = r from (hFc _ (by decide)).trans (hM)] at hr4 hrow4
                subst hr4
                refine lv_iload_n hx hb dX12_finish_116 rfl (lv_at hl 3 rfl) ?_
                refine lv_icmp_ge (tgt := 124) hx hb dX12_finish_117 (by decide) (fun c_117 => ?_) (fun c_117 => ?_)
                · skip
                  have d_117 := Int32.not_lt.mpr c_117
                  refine lv_iconst (v := (0 : Int32)) hx hb dX12_finish_124 (by decide) ?_
                  refine z_iadd hx hb (a := k) (b := 0) (n := k + 0) dX12_finish_125 rfl rfl rfl ?_
                  refine lv_istore (lv' := [(4, .int (nI (k + 0))), (0, .ref (E.1 92)), (1, .int (nI ia)), (2, .int what), (3, .int (q_fin r n ia)), (5, .int (nI i))]) hx hb dX12_finish_126 hl (by decide) rfl (fun ls hl => ?_)
                  refine lv_iinc (v := (nI (i + 1))) (lv' := [(5, .int (nI (i + 1))), (4, .int (nI (k + 0))), (0, .ref (E.1 92)), (1, .int (nI ia)), (2, .int what), (3, .int (q_fin r n ia))]) hx hb dX12_finish_128 hl (k := 5) rfl (z_inc (by decide)) (by decide) rfl (fun ls hl => ?_)
                  refine lv_goto (tgt := 93) hx hb dX12_finish_131 (by decide) ?_
                  exact ih_93 (i + 1) (k + 0) G4 _ _ _ (by first | assumption | omega) (by have c9 : ¬ (m_run r i (-1) n).2 < q_fin r n ia := d_117; rw [hk, s_cnt_n (by simp [c9])]; omega) (by exact fun k hk => (hF4 k (by omega)).trans (hFc k (by omega))) hP hS (lv_sub hl [2, 3, 4, 5, 1, 0] rfl) (by omega)
                · skip
                  have d_117 := Int32.not_le.mp c_117
                  refine lv_iconst (v := (1 : Int32)) hx hb dX12_finish_120 (by decide) ?_
                  refine lv_goto (tgt := 125) hx hb dX12_finish_121 (by decide) ?_
                  refine z_iadd hx hb (a := k) (b := 1) (n := k + 1) dX12_finish_125 rfl rfl rfl ?_
                  refine lv_istore (lv' := [(4, .int (nI (k + 1))), (0, .ref (E.1 92)), (1, .int (nI ia)), (2, .int what), (3, .int (q_fin r n ia)), (5, .int (nI i))]) hx hb dX12_finish_126 hl (by decide) rfl (fun ls hl => ?_)
                  refine lv_iinc (v := (nI (i + 1))) (lv' := [(5, .int (nI (i + 1))), (4, .int (nI (k + 1))), (0, .ref (E.1 92)), (1, .int (nI ia)), (2, .int what), (3, .int (q_fin r n ia))]) hx hb dX12_finish_128 hl (k := 5) rfl (z_inc (by decide)) (by decide) rfl (fun ls hl => ?_)
                  refine lv_goto (tgt := 93) hx hb dX12_finish_131 (by decide) ?_
                  exact ih_93 (i + 1) (k + 1) G4 _ _ _ (by first | assumption | omega) (by have c9 : (m_run r i (-1) n).2 < q_fin r n ia := d_117; rw [hk, s_cnt_y (decide_eq_true c9)]; omega) (by exact fun k hk => (hF4 k (by omega)).trans (hFc k (by omega))) hP hS (lv_sub hl [2, 3, 4, 5, 1, 0] rfl) (by omega)
          exact cut_93 (_ + 1) 0 1 G3 _ _ _ (by first | assumption | omega) (by rfl) (by exact fun k hk => hF3 k (by omega)) hP hS (lv_sub hl [3, 4, 5, 2, 1, 0] rfl) (Nat.lt_succ_self _)
        · skip
          refine lv_iconst (v := (0 : Int32)) hx hb dX12_finish_51 (by decide) ?_
          refine lv_istore (lv' := [(4, .int (0 : Int32)), (3, .int (q_fin r n ia)), (0, .ref (E.1 92)), (1, .int (nI ia)), (2, .int what)]) hx hb dX12_finish_52 hl (by decide) rfl (fun ls hl => ?_)
          have cut_54 : ∀ (fuel : Nat), ∀ (i : Nat) (H : Heap) (locs : List Loc) (ls : Array Slot), (i ≤ n) → (s_fst (fun i => decide (q_leg r ia i = 0)) i = i) → zP E G3 H → va_S (zA E s_.heap.size) s_.heap H locs → lv_has ls 6 [(0, .ref (E.1 92)), (1, .int (nI ia)), (2, .int what), (3, .int (q_fin r n ia)), (4, .int (nI i))] → n - i < fuel → W p_ l e_ ({ frames := 6, cells := 0, slots := 0, locals := 142 } : Room) s_ m_ a_ b_ me_ c_ H locs 0 0 Q_ (F0 m_ 54 ls []) := by
            intro fuel
            induction fuel with
            | zero =>
              intro i  H locs ls hin hf hP hS hl hfu
              exact absurd hfu (Nat.not_lt_zero _)
            | succ fuel ih_54 =>
              intro i  H locs ls hin hf hP hS hl hfu_54
              refine lv_iload hx hb dX12_finish_54 (lv_at hl 4 rfl) ?_
              refine lv_aload_n hx hb dX12_finish_56 rfl (lv_at hl 0 rfl) ?_
              refine z_get C0 hP (C := RX12) (T := TX12) (N := 21) (ci := 10) (index := 9) (k := 92) (ref := "WetSuitPedalsShoesModel") (zk_lt (rfl : zk 92 = 10) (by decide)) (zd_10 E (rfl : zk 92 = 10) _) rfl (zmi inU_12) 0 (by decide) (zm flRX12_9) rfl (v := .ref (E.1 93)) (rfl) dX12_finish_57 ?_
              refine lv_iconst (v := (0 : Int32)) hx hb dX12_finish_60 (by decide) ?_
              refine z_iald C0 hP (k := 93) (i := 0) (v := (nI n)) (rfl : zk 93 = 11) (Nat.lt_of_lt_of_eq (show 0 < 102 by decide) (rfl : zl 93 = 102).symm) rfl dX12_finish_61 ((congrFun ((hF3 _ (by decide)).trans (hM)) _).trans (hrn)) ?_
              refine z_N_ge hx hb (a := i) (b := n) (tgt := 84) dX12_finish_62 rfl rfl (by omega) (by omega) (by decide) (fun c_62 => ?_) (fun c_62 => ?_)
              · skip
                have e9 := s_gone_n (lg := q_leg r ia) (n := n) (by have e8 : i = n := (by omega); subst e8; exact hf)
                refine lv_bipush (v := (-9 : Int32)) hx hb dX12_finish_84 (by decide) ?_
                subst hQ_
                exact z_iret C0 hP hS (v := (-9 : Int32)) (by exact zQm_of (k := 0) (by simp [A_finish, hz_ia, hy_ia, hi3_2, hi4_2, c_41, c_48, c_62, e9]) (fun k hk => hF3 k (by omega)) (hF3 _ (by decide))) dX12_finish_86
              · skip
                refine lv_aload_n hx hb dX12_finish_65 rfl (lv_at hl 0 rfl) ?_
                refine z_get C0 hP (C := RX12) (T := TX12) (N := 21) (ci := 10) (index := 34) (k := 92) (ref := "WetSuitPedalsShoesModel") (zk_lt (rfl : zk 92 = 10) (by decide)) (zd_10 E (rfl : zk 92 = 10) _) rfl (zmi inU_12) 11 (by decide) (zm flRX12_34) rfl (v := .ref (E.1 101)) (rfl) dX12_finish_66 ?_
                refine lv_iload hx hb dX12_finish_69 (lv_at hl 4 rfl) ?_
                refine z_iald C0 hP (k := 101) (i := i) (v := (q_leg r ia i)) (rfl : zk 101 = 11) (Nat.lt_of_lt_of_eq (show i < 10 by omega) (rfl : zl 101 = 10).symm) rfl dX12_finish_71 ((hrow3 i (by omega)).2.1) ?_
                refine lv_if_ne (tgt := 78) hx hb dX12_finish_72 (by decide) (fun c_72 => ?_) (fun c_72 => ?_)
                · skip
                  refine lv_iinc (v := (nI (i + 1))) (lv' := [(4, .int (nI (i + 1))), (0, .ref (E.1 92)), (1, .int (nI ia)), (2, .int what), (3, .int (q_fin r n ia))]) hx hb dX12_finish_78 hl (k := 4) rfl (z_inc (by decide)) (by decide) rfl (fun ls hl => ?_)
                  refine lv_goto (tgt := 54) hx hb dX12_finish_81 (by decide) ?_
                  exact ih_54 (i + 1) _ _ _ (by first | assumption | omega) (by exact s_fst_no hf (by simp [hz_ia, hy_ia, hi3_2, hi4_2, c_41, c_48, c_62, c_72])) hP hS (lv_sub hl [1, 2, 3, 4, 0] rfl) (by omega)
                · skip
                  have e9 := s_gone_y (s_fst_yes (n := n) hf (decide_eq_true c_72) (by omega)) (by omega)
                  refine lv_iload hx hb dX12_finish_75 (lv_at hl 4 rfl) ?_
                  subst hQ_
                  exact z_iret C0 hP hS (v := (nI i)) (by exact zQm_of (k := 0) (by simp [A_finish, hz_ia, hy_ia, hi3_2, hi4_2, c_41, c_48, c_62, c_72, e9]) (fun k hk => hF3 k (by omega)) (hF3 _ (by decide))) dX12_finish_77
          exact cut_54 (_ + 1) 0 _ _ _ (by first | assumption | omega) (by rfl) hP hS (lv_sub hl [2, 3, 4, 1, 0] rfl) (Nat.lt_succ_self _)
      · skip
        refine lv_iload_n hx hb dX12_finish_44 rfl (lv_at hl 0 rfl) ?_
        subst hQ_
        exact z_iret C0 hP hS (v := (q_fin r n ia)) (by exact zQm_of (k := 0) (by simp [A_finish, hz_ia, hy_ia, hi3_2, hi4_2, c_41]) (fun k hk => hF3 k (by omega)) (hF3 _ (by decide))) dX12_finish_45
    · skip
      have hi5_2 := z_nin hi0_2
      refine lv_if_ne (tgt := 30) hx hb dX12_finish_20 (by decide) (fun h_ => absurd (by decide) h_) (fun _ => ?_)
      refine lv_aload_n hx hb dX12_finish_23 rfl (lv_at hl 0 rfl) ?_
      refine lv_bipush (v := (-2 : Int32)) hx hb dX12_finish_24 (by decide) ?_
      refine z_Vi C0 hP hD hA hS (As := [.int (-2 : Int32)]) (rest := []) (k := 92) (c_X12_no l E _ (-2 : Int32) 2 (by decide) (by decide)) (cwV 1 hts (zgV zbw mlRX12_56 imX12_no seX12_no iniRX12 coX12_no) rfl rfl rfl (by decide +kernel) ⟨Nat.le_of_ble_eq_true rfl, Nat.le_of_ble_eq_true rfl⟩) (zk_lt (rfl : zk 92 = 10) (by decide)) (zd_10 E (rfl : zk 92 = 10) _) rfl rfl rfl hl.1 rfl (Nat.le_of_ble_eq_true rfl) dX12_finish_26 ⟨Nat.zero_le _, Nat.zero_le _⟩ (fun r5 G5 H locs hw5 hP hS => ?_)
      obtain ⟨rfl, rfl⟩ := hw5
      subst hQ_
      exact z_iret C0 hP hS (v := (-2 : Int32)) (by exact zQm_of (k := 2) (by simp [A_finish, hz_ia, hy_ia, hi5_2]) (fun k hk => g1_n (by omega)) (g1_s _ _ _)) dX12_finish_29
  · skip
    have hz_ia := zin_f (by omega) hno1
    refine lv_if_ne (tgt := 14) hx hb dX12_finish_5 (by decide) (fun h_ => absurd (by decide) h_) (fun _ => ?_)
    refine lv_aload_n hx hb dX12_finish_8 rfl (lv_at hl 0 rfl) ?_
    refine lv_iconst (v := (-1 : Int32)) hx hb dX12_finish_9 (by decide) ?_
    refine z_Vi C0 hP hD hA hS (As := [.int (-1 : Int32)]) (rest := []) (k := 92) (c_X12_no l E _ (-1 : Int32) 1 (by decide) (by decide)) (cwV 1 hts (zgV zbw mlRX12_56 imX12_no seX12_no iniRX12 coX12_no) rfl rfl rfl (by decide +kernel) ⟨Nat.le_of_ble_eq_true rfl, Nat.le_of_ble_eq_true rfl⟩) (zk_lt (rfl : zk 92 = 10) (by decide)) (zd_10 E (rfl : zk 92 = 10) _) rfl rfl rfl hl.1 rfl (Nat.le_of_ble_eq_true rfl) dX12_finish_10 ⟨Nat.zero_le _, Nat.zero_le _⟩ (fun r6 G6 H locs hw6 hP hS => ?_)
    obtain ⟨rfl, rfl⟩ := hw6
    subst hQ_
    exact z_iret C0 hP hS (v := (-1 : Int32)) (by exact zQm_of (k := 1) (by simp [A_finish, hz_ia]) (fun k hk => g1_n (by omega)) (g1_s _ _ _)) dX12_finish_13
set_option maxHeartbeats 4000000 in
set_option maxRecDepth 100000 in
theorem c_X12_at (l : Launch) (E : zE) (G : zG) (r : Nat → Int32) (n na : Nat) (athlete t : Int32) (hM : G 93 = r) (hrn : r 0 = nI n) (hrna : r 1 = nI na) (hn10 : n ≤ 10) (hna : na ≤ 5) : zMi l yX12_at wsX12_at ({ frames := 6, cells := 0, slots := 0, locals := 142 } : Room) E G [.ref (E.1 92), .int athlete, .int t] (fun r1 G1 => zQm (A_at r n na athlete t) G r1 G1) := by
  refine zOf (cc := cX12_at) (nL := 5) (ret := (some .int)) RX12 (by decide) rfl rfl (Nat.le_of_ble_eq_true rfl) ?_
  intro p_ e_ s_ m_ a_ b_ me_ c_ ls C0 hP hS hl
  have hx := C0.1
  have hb := C0.2.1
  have hts := C0.2.2.2.2.1
  have hD : zD E (zA E s_.heap.size) := C0.2.2.2.2.2.2.2.2
  have hA : ∀ q : Nat, s_.heap.size ≤ q → zA E s_.heap.size q := fun q h => Or.inr h
  refine z_gen (fun Q_ hQ_ => ?_)
  have hl : lv_has ls 5 [(0, .ref (E.1 92)), (1, .int athlete), (2, .int t)] := hl
  refine lv_aload_n hx hb dX12_at_0 rfl (lv_at hl 0 rfl) ?_
  refine lv_iload_n hx hb dX12_at_1 rfl (lv_at hl 1 rfl) ?_
  refine z_Vi C0 hP hD hA hS (As := [.int athlete]) (rest := []) (k := 92) (c_X12_isAthlete l E _ na athlete ((congrFun (hM) _).trans (hrna)) (by omega)) (cwV 1 hts (zgV zbw mlRX12_136 imX12_isAthlete seX12_isAthlete iniRX12 coX12_isAthlete) rfl rfl rfl (by decide +kernel) ⟨Nat.le_of_ble_eq_true rfl, Nat.le_of_ble_eq_true rfl⟩) (zk_lt (rfl : zk 92 = 10) (by decide)) (zd_10 E (rfl : zk 92 = 10) _) rfl rfl rfl hl.1 rfl (Nat.le_of_ble_eq_true rfl) dX12_at_2 ⟨Nat.zero_le _, Nat.zero_le _⟩ (fun r1 G1 H locs hw1 hP hS => ?_)
  rcases hw1 with ⟨rfl, rfl, ia, hia, rfl⟩ | ⟨rfl, rfl, hno1⟩
  · skip
    have hz_ia := zin_t hia (by omega)
    have hy_ia : zix (nI ia) = ia := zix_n (by omega)
    refine lv_if_ne (tgt := 14) hx hb dX12_at_5 (by decide) (fun _ => ?_) (fun h_ => absurd h_ (by decide))
    refine lv_iload_n hx hb dX12_at_14 rfl (lv_at hl 2 rfl) ?_
    refine lv_if_ge (tgt := 25) hx hb dX12_at_15 (by decide) (fun c_15 => ?_) (fun c_15 => ?_)
    · skip
      have d_15 := Int32.not_lt.mpr c_15
      refine lv_iload_n hx hb dX12_at_25 rfl (lv_at hl 2 rfl) ?_
      refine lv_sipush (v := (999 : Int32)) hx hb dX12_at_26 (by decide) ?_
      refine lv_icmp_le (tgt := 39) hx hb dX12_at_29 (by decide) (fun c_29 => ?_) (fun c_29 => ?_)
      · skip
        have d_29 := Int32.not_lt.mpr c_29
        refine lv_aload_n hx hb dX12_at_39 rfl (lv_at hl 0 rfl) ?_
        refine lv_aload_n hx hb dX12_at_40 rfl (lv_at hl 0 rfl) ?_
        refine z_get C0 hP (C := RX12) (T := TX12) (N := 21) (ci := 10) (index := 9) (k := 92) (ref := "WetSuitPedalsShoesModel") (zk_lt (rfl : zk 92 = 10) (by decide)) (zd_10 E (rfl : zk 92 = 10) _) rfl (zmi inU_12) 0 (by decide) (zm flRX12_9) rfl (v := .ref (E.1 93)) (rfl) dX12_at_41 ?_
        refine lv_iload_n hx hb dX12_at_44 rfl (lv_at hl 1 rfl) ?_
        refine z_Vi C0 hP hD hA hS (As := [.ref (E.1 93), .int (nI ia)]) (rest := []) (k := 92) (c_X12_finishOf l E _ 93 ia n z_lit_Arr102_93 (by omega) ((congrFun (hM) _).trans (hrn)) (by omega) (by omega)) (cwV 2 hts (zgV zbw mlRX12_156 imX12_finishOf seX12_finishOf iniRX12 coX12_finishOf) rfl rfl rfl (by decide +kernel) ⟨Nat.le_of_ble_eq_true rfl, Nat.le_of_ble_eq_true rfl⟩) (zk_lt (rfl : zk 92 = 10) (by decide)) (zd_10 E (rfl : zk 92 = 10) _) rfl rfl rfl hl.1 rfl (Nat.le_of_ble_eq_true rfl) dX12_at_45 ⟨Nat.zero_le _, Nat.zero_le _⟩ (fun r2 G2 H locs hw2 hP hS => ?_)
        obtain ⟨hr2, hF2, hrow2⟩ := hw2
        rw [show G 93 = r from hM] at hr2 hrow2
        subst hr2
        refine lv_istore_n (lv' := [(3, .int (q_fin r n ia)), (0, .ref (E.1 92)), (1, .int (nI ia)), (2, .int t)]) hx hb dX12_at_48 rfl hl (by decide) rfl (fun ls hl => ?_)
        refine lv_iconst (v := (0 : Int32)) hx hb dX12_at_49 (by decide) ?_
        refine lv_istore (lv' := [(4, .int (0 : Int32)), (3, .int (q_fin r n ia)), (0, .ref (E.1 92)), (1, .int (nI ia)), (2, .int t)]) hx hb dX12_at_50 hl (by decide) rfl (fun ls hl => ?_)
        have cut_52 : ∀ (fuel : Nat), ∀ (i : Nat) (H : Heap) (locs : List Loc) (ls : Array Slot), (i ≤ n) → (s_fst (fun i => decide (t < q_all r ia i)) i = i) → zP E G2 H → va_S (zA E s_.heap.size) s_.heap H locs → lv_has ls 5 [(0, .ref (E.1 92)), (1, .int (nI ia)), (2, .int t), (3, .int (q_fin r n ia)), (4, .int (nI i))] → n - i < fuel → W p_ l e_ ({ frames := 6, cells := 0, slots := 0, locals := 142 } : Room) s_ m_ a_ b_ me_ c_ H locs 0 0 Q_ (F0 m_ 52 ls []) := by
          intro fuel
          induction fuel with
          | zero =>
            intro i  H locs ls hin hf hP hS hl hfu
            exact absurd hfu (Nat.not_lt_zero _)
          | succ fuel ih_52 =>
            intro i  H locs ls hin hf hP hS hl hfu_52
            refine lv_iload hx hb dX12_at_52 (lv_at hl 4 rfl) ?_
            refine lv_aload_n hx hb dX12_at_54 rfl (lv_at hl 0 rfl) ?_
            refine z_get C0 hP (C := RX12) (T := TX12) (N := 21) (ci := 10) (index := 9) (k := 92) (ref := "WetSuitPedalsShoesModel") (zk_lt (rfl : zk 92 = 10) (by decide)) (zd_10 E (rfl : zk 92 = 10) _) rfl (zmi inU_12) 0 (by decide) (zm flRX12_9) rfl (v := .ref (E.1 93)) (rfl) dX12_at_55 ?_
            refine lv_iconst (v := (0 : Int32)) hx hb dX12_at_58 (by decide) ?_
            refine z_iald C0 hP (k := 93) (i := 0) (v := (nI n)) (rfl : zk 93 = 11) (Nat.lt_of_lt_of_eq (show 0 < 102 by decide) (rfl : zl 93 = 102).symm) rfl dX12_at_59 ((congrFun ((hF2 _ (by decide)).trans (hM)) _).trans (hrn)) ?_
            refine z_N_ge hx hb (a := i) (b := n) (tgt := 83) dX12_at_60 rfl rfl (by omega) (by omega) (by decide) (fun c_60 => ?_) (fun c_60 => ?_)
            · skip
              have e9 := s_at_y (al := q_all r ia) (t := t) (n := n) (i := n) (by have e8 : i = n := (by omega); subst e8; exact hf)
              refine lv_aload_n hx hb dX12_at_83 rfl (lv_at hl 0 rfl) ?_
              refine z_get C0 hP (C := RX12) (T := TX12) (N := 21) (ci := 10) (index := 9) (k := 92) (ref := "WetSuitPedalsShoesModel") (zk_lt (rfl : zk 92 = 10) (by decide)) (zd_10 E (rfl : zk 92 = 10) _) rfl (zmi inU_12) 0 (by decide) (zm flRX12_9) rfl (v := .ref (E.1 93)) (rfl) dX12_at_84 ?_
              refine lv_iconst (v := (0 : Int32)) hx hb dX12_at_87 (by decide) ?_
              refine z_iald C0 hP (k := 93) (i := 0) (v := (nI n)) (rfl : zk 93 = 11) (Nat.lt_of_lt_of_eq (show 0 < 102 by decide) (rfl : zl 93 = 102).symm) rfl dX12_at_88 ((congrFun ((hF2 _ (by decide)).trans (hM)) _).trans (hrn)) ?_
              subst hQ_
              exact z_iret C0 hP hS (v := (nI n)) (by exact zQm_of (k := 0) (by simp [A_at, hz_ia, hy_ia, d_15, d_29, c_60, e9]) (fun k hk => hF2 k (by omega)) (hF2 _ (by decide))) dX12_at_89
            · skip
              refine lv_iload_n hx hb dX12_at_63 rfl (lv_at hl 2 rfl) ?_
              refine lv_aload_n hx hb dX12_at_64 rfl (lv_at hl 0 rfl) ?_
              refine z_get C0 hP (C := RX12) (T := TX12) (N := 21) (ci := 10) (index := 37) (k := 92) (ref := "WetSuitPedalsShoesModel") (zk_lt (rfl : zk 92 = 10) (by decide)) (zd_10 E (rfl : zk 92 = 10) _) rfl (zmi inU_12) 12 (by decide) (zm flRX12_37) rfl (v := .ref (E.1 102)) (rfl) dX12_at_65 ?_
              refine lv_iload hx hb dX12_at_68 (lv_at hl 4 rfl) ?_
              refine z_iald C0 hP (k := 102) (i := i) (v := (q_all r ia i)) (rfl : zk 102 = 11) (Nat.lt_of_lt_of_eq (show i < 10 by omega) (rfl : zl 102 = 10).symm) rfl dX12_at_70 ((hrow2 i (by omega)).2.2) ?_
              refine lv_icmp_ge (tgt := 77) hx hb dX12_at_71 (by decide) (fun c_71 => ?_) (fun c_71 => ?_)
              · skip
                have d_71 := Int32.not_lt.mpr c_71
                refine lv_iinc (v := (nI (i + 1))) (lv' := [(4, .int (nI (i + 1))), (0, .ref (E.1 92)), (1, .int (nI ia)), (2, .int t), (3, .int (q_fin r n ia))]) hx hb dX12_at_77 hl (k := 4) rfl (z_inc (by decide)) (by decide) rfl (fun ls hl => ?_)
                refine lv_goto (tgt := 52) hx hb dX12_at_80 (by decide) ?_
                exact ih_52 (i + 1) _ _ _ (by first | assumption | omega) (by exact s_fst_no hf (by simp [hz_ia, hy_ia, d_15, d_29, c_60, d_71])) hP hS (lv_sub hl [1, 2, 3, 4, 0] rfl) (by omega)
              · skip
                have d_71 := Int32.not_le.mp c_71
                have e9 := s_at_y (s_fst_yes (n := n) hf (decide_eq_true d_71) (by omega))
                refine lv_iload hx hb dX12_at_74 (lv_at hl 4 rfl) ?_
                subst hQ_
                exact z_iret C0 hP hS (v := (nI i)) (by exact zQm_of (k := 0) (by simp [A_at, hz_ia, hy_ia, d_15, d_29, c_60, d_71, e9]) (fun k hk => hF2 k (by omega)) (hF2 _ (by decide))) dX12_at_76
        exact cut_52 (_ + 1) 0 _ _ _ (by first | assumption | omega) (by rfl) hP hS (lv_sub hl [2, 3, 4, 1, 0] rfl) (Nat.lt_succ_self _)
      · skip
        have d_29 := Int32.not_le.mp c_29
        refine lv_aload_n hx hb dX12_at_32 rfl (lv_at hl 0 rfl) ?_
        refine lv_bipush (v := (-6 : Int32)) hx hb dX12_at_33 (by decide) ?_
        refine z_Vi C0 hP hD hA hS (As := [.int (-6 : Int32)]) (rest := []) (k := 92) (c_X12_no l E _ (-6 : Int32) 6 (by decide) (by decide)) (cwV 1 hts (zgV zbw mlRX12_56 imX12_no seX12_no iniRX12 coX12_no) rfl rfl rfl (by decide +kernel) ⟨Nat.le_of_ble_eq_true rfl, Nat.le_of_ble_eq_true rfl⟩) (zk_lt (rfl : zk 92 = 10) (by decide)) (zd_10 E (rfl : zk 92 = 10) _) rfl rfl rfl hl.1 rfl (Nat.le_of_ble_eq_true rfl) dX12_at_35 ⟨Nat.zero_le _, Nat.zero_le _⟩ (fun r3 G3 H locs hw3 hP hS => ?_)
        obtain ⟨rfl, rfl⟩ := hw3
        subst hQ_
        exact z_iret C0 hP hS (v := (-6 : Int32)) (by exact zQm_of (k := 6) (by simp [A_at, hz_ia, hy_ia, d_15, d_29]) (fun k hk => g1_n (by omega)) (g1_s _ _ _)) dX12_at_38
    · skip
      have d_15 := Int32.not_le.mp c_15
      refine lv_aload_n hx hb dX12_at_18 rfl (lv_at hl 0 rfl) ?_
      refine lv_bipush (v := (-4 : Int32)) hx hb dX12_at_19 (by decide) ?_
      refine z_Vi C0 hP hD hA hS (As := [.int (-4 : Int32)]) (rest := []) (k := 92) (c_X12_no l E _ (-4 : Int32) 4 (by decide) (by decide)) (cwV 1 hts (zgV zbw mlRX12_56 imX12_no seX12_no iniRX12 coX12_no) rfl rfl rfl (by decide +kernel) ⟨Nat.le_of_ble_eq_true rfl, Nat.le_of_ble_eq_true rfl⟩) (zk_lt (rfl : zk 92 = 10) (by decide)) (zd_10 E (rfl : zk 92 = 10) _) rfl rfl rfl hl.1 rfl (Nat.le_of_ble_eq_true rfl) dX12_at_21 ⟨Nat.zero_le _, Nat.zero_le _⟩ (fun r4 G4 H locs hw4 hP hS => ?_)
      obtain ⟨rfl, rfl⟩ := hw4
      subst hQ_
      exact z_iret C0 hP hS (v := (-4 : Int32)) (by exact zQm_of (k := 4) (by simp [A_at, hz_ia, hy_ia, d_15]) (fun k hk => g1_n (by omega)) (g1_s _ _ _)) dX12_at_24
  · skip
    have hz_ia := zin_f (by omega) hno1
    refine lv_if_ne (tgt := 14) hx hb dX12_at_5 (by decide) (fun h_ => absurd (by decide) h_) (fun _ => ?_)
    refine lv_aload_n hx hb dX12_at_8 rfl (lv_at hl 0 rfl) ?_
    refine lv_iconst (v := (-1 : Int32)) hx hb dX12_at_9 (by decide) ?_
    refine z_Vi C0 hP hD hA hS (As := [.int (-1 : Int32)]) (rest := []) (k := 92) (c_X12_no l E _ (-1 : Int32) 1 (by decide) (by decide)) (cwV 1 hts (zgV zbw mlRX12_56 imX12_no seX12_no iniRX12 coX12_no) rfl rfl rfl (by decide +kernel) ⟨Nat.le_of_ble_eq_true rfl, Nat.le_of_ble_eq_true rfl⟩) (zk_lt (rfl : zk 92 = 10) (by decide)) (zd_10 E (rfl : zk 92 = 10) _) rfl rfl rfl hl.1 rfl (Nat.le_of_ble_eq_true rfl) dX12_at_10 ⟨Nat.zero_le _, Nat.zero_le _⟩ (fun r5 G5 H locs hw5 hP hS => ?_)
    obtain ⟨rfl, rfl⟩ := hw5
    subst hQ_
    exact z_iret C0 hP hS (v := (-1 : Int32)) (by exact zQm_of (k := 1) (by simp [A_at, hz_ia]) (fun k hk => g1_n (by omega)) (g1_s _ _ _)) dX12_at_13
