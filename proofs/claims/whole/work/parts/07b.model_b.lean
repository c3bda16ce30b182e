/-! laid by wip/whole/vcg.py -/
theorem flRX12_31 : Cond.fieldLink RX12 31 "WetSuitPedalsShoesModel" "seconds" "[I" ∈ zU := zU_m 818 (by decide +kernel) rfl
theorem mlRX12_91 : Cond.methodLink RX12 91 yX12_tried ∈ zU := zU_m 927 (by decide +kernel) rfl
theorem coX12_tried : Cond.code yX12_tried cX12_tried 2 (some .int) ∈ zU := zU_m 929 (by decide +kernel) rfl
theorem stX12_tried : Cond.static yX12_tried ∈ zU := zU_m 928 (by decide +kernel) rfl
theorem mlRX12_94 : Cond.methodLink RX12 94 yX12_secondsBy ∈ zU := zU_m 985 (by decide +kernel) rfl
theorem coX12_secondsBy : Cond.code yX12_secondsBy cX12_secondsBy 6 (some .int) ∈ zU := zU_m 987 (by decide +kernel) rfl
theorem stX12_secondsBy : Cond.static yX12_secondsBy ∈ zU := zU_m 986 (by decide +kernel) rfl
theorem mlRX12_98 : Cond.methodLink RX12 98 yX12_legsBehind ∈ zU := zU_m 994 (by decide +kernel) rfl
theorem coX12_legsBehind : Cond.code yX12_legsBehind cX12_legsBehind 5 (some .int) ∈ zU := zU_m 996 (by decide +kernel) rfl
theorem stX12_legsBehind : Cond.static yX12_legsBehind ∈ zU := zU_m 995 (by decide +kernel) rfl
theorem flRX12_34 : Cond.fieldLink RX12 34 "WetSuitPedalsShoesModel" "legs" "[I" ∈ zU := zU_m 819 (by decide +kernel) rfl
theorem flRX12_37 : Cond.fieldLink RX12 37 "WetSuitPedalsShoesModel" "sums" "[I" ∈ zU := zU_m 820 (by decide +kernel) rfl
set_option maxHeartbeats 4000000 in
set_option maxRecDepth 100000 in
theorem c_X12_goes (l : Launch) (E : zE) (G : zG) (q a n : Nat) (d : Int32) (hq : zIs q tArr102) (ha : a < 5) (hn : G q 0 = nI n) (hn10 : n ≤ 10) (hq1 : q < 100) : zMi l yX12_goes wsX12_goes ({ frames := 4, cells := 0, slots := 0, locals := 94 } : Room) E G [.ref (E.1 92), .ref (E.1 q), .int (nI a), .int d] (fun r G1 => (m_run (G q) a d n).2 = r ∧ (∀ k, (k < 100 ∨ 102 < k) → G1 k = G k) ∧ ∀ j, j < n → G1 100 j = m_sc (G q) a d j ∧ G1 101 j = (m_run (G q) a d (j + 1)).1 ∧ G1 102 j = (m_run (G q) a d (j + 1)).2) := by
  refine zOf (cc := cX12_goes) (nL := 7) (ret := (some .int)) RX12 (by decide) rfl rfl (Nat.le_of_ble_eq_true rfl) ?_
  intro p_ e_ s_ m_ a_ b_ me_ c_ ls C0 hP hS hl
  have hx := C0.1
  have hb := C0.2.1
  have hts := C0.2.2.2.2.1
  have hD : zD E (zA E s_.heap.size) := C0.2.2.2.2.2.2.2.2
  have hA : ∀ q : Nat, s_.heap.size ≤ q → zA E s_.heap.size q := fun q h => Or.inr h
  refine z_gen (fun Q_ hQ_ => ?_)
  have hl : lv_has ls 7 [(0, .ref (E.1 92)), (1, .ref (E.1 q)), (2, .int (nI a)), (3, .int d)] := hl
  refine lv_aload_n hx hb dX12_goes_0 rfl (lv_at hl 1 rfl) ?_
  refine lv_iload_n hx hb dX12_goes_1 rfl (lv_at hl 2 rfl) ?_
  refine lv_iconst (v := (3 : Int32)) hx hb dX12_goes_2 (by decide) ?_
  refine z_Si C0 hP hD hA hS (As := [.int (nI a), .int (3 : Int32)]) (rest := [.ref (E.1 q)]) (c_X12_athleteAt l E _ a 3) (va_cwS 2 hts (zgS zbw mlRX12_70 stX12_athleteAt iniRX12 coX12_athleteAt) rfl rfl rfl (by decide +kernel) ⟨Nat.le_of_ble_eq_true rfl, Nat.le_of_ble_eq_true rfl⟩) rfl hl.1 rfl (Nat.le_of_ble_eq_true rfl) dX12_goes_3 ⟨Nat.zero_le _, Nat.zero_le _⟩ (fun r1 G1 H locs hw1 hP hS => ?_)
  obtain ⟨hr1, rfl⟩ := hw1
  subst hr1
  refine z_eqi (y := (nI (35 + 4 * a))) (congrArg nI (by omega)) ?_
  refine z_iald C0 hP (k := q) (i := 35 + 4 * a) (v := (G q (35 + 4 * a))) (hq (0, 11, 102) (by decide)).1 (Nat.lt_of_lt_of_eq (show 35 + 4 * a < 102 by omega) (hq (0, 11, 102) (by decide)).2.symm) rfl dX12_goes_6 (rfl) ?_
  refine lv_istore (lv' := [(4, .int (G q (35 + 4 * a))), (0, .ref (E.1 92)), (1, .ref (E.1 q)), (2, .int (nI a)), (3, .int d)]) hx hb dX12_goes_7 hl (by decide) rfl (fun ls hl => ?_)
  refine lv_iconst (v := (0 : Int32)) hx hb dX12_goes_9 (by decide) ?_
  refine lv_istore (lv' := [(5, .int (0 : Int32)), (4, .int (G q (35 + 4 * a))), (0, .ref (E.1 92)), (1, .ref (E.1 q)), (2, .int (nI a)), (3, .int d)]) hx hb dX12_goes_10 hl (by decide) rfl (fun ls hl => ?_)
  refine lv_iconst (v := (0 : Int32)) hx hb dX12_goes_12 (by decide) ?_
  refine lv_istore (lv' := [(6, .int (0 : Int32)), (5, .int (0 : Int32)), (4, .int (G q (35 + 4 * a))), (0, .ref (E.1 92)), (1, .ref (E.1 q)), (2, .int (nI a)), (3, .int d)]) hx hb dX12_goes_13 hl (by decide) rfl (fun ls hl => ?_)
  have cut_15 : ∀ (fuel : Nat), ∀ (i : Nat) (g sm : Int32) (G1 : zG) (H : Heap) (locs : List Loc) (ls : Array Slot), (i ≤ n) → (g = (m_run (G q) a d i).1) → (sm = (m_run (G q) a d i).2) → (∀ k, (k < 100 ∨ 102 < k) → G1 k = G k) → (∀ j, j < i → G1 100 j = m_sc (G q) a d j ∧ G1 101 j = (m_run (G q) a d (j + 1)).1 ∧ G1 102 j = (m_run (G q) a d (j + 1)).2) → zP E G1 H → va_S (zA E s_.heap.size) s_.heap H locs → lv_has ls 7 [(0, .ref (E.1 92)), (1, .ref (E.1 q)), (2, .int (nI a)), (3, .int d), (4, .int g), (5, .int sm), (6, .int (nI i))] → n - i < fuel → W p_ l e_ ({ frames := 4, cells := 0, slots := 0, locals := 94 } : Room) s_ m_ a_ b_ me_ c_ H locs 0 0 Q_ (F0 m_ 15 ls []) := by
    intro fuel
    induction fuel with
    | zero =>
      intro i  g sm  G1  H locs ls hin hg hsm hF1 hrow hP hS hl hfu
      exact absurd hfu (Nat.not_lt_zero _)
    | succ fuel ih_15 =>
      intro i  g sm  G1  H locs ls hin hg hsm hF1 hrow hP hS hl hfu_15
      refine lv_iload hx hb dX12_goes_15 (lv_at hl 6 rfl) ?_
      refine lv_aload_n hx hb dX12_goes_17 rfl (lv_at hl 1 rfl) ?_
      refine lv_iconst (v := (0 : Int32)) hx hb dX12_goes_18 (by decide) ?_
      refine z_iald C0 hP (k := q) (i := 0) (v := (nI n)) (hq (0, 11, 102) (by decide)).1 (Nat.lt_of_lt_of_eq (show 0 < 102 by decide) (hq (0, 11, 102) (by decide)).2.symm) rfl dX12_goes_19 ((congrFun (hF1 _ (by omega)) _).trans (hn)) ?_
      refine z_N_ge hx hb (a := i) (b := n) (tgt := 119) dX12_goes_20 rfl rfl (by omega) (by omega) (by decide) (fun c_20 => ?_) (fun c_20 => ?_)
      · skip
        refine lv_iload hx hb dX12_goes_119 (lv_at hl 5 rfl) ?_
        subst hQ_
        exact z_iret C0 hP hS (v := sm) (by exact ⟨(hsm.trans (by rw [show i = n by omega])).symm, hF1, fun j hj => hrow j (by omega)⟩) dX12_goes_121
      · skip
        refine lv_aload_n hx hb dX12_goes_23 rfl (lv_at hl 0 rfl) ?_
        refine z_get C0 hP (C := RX12) (T := TX12) (N := 21) (ci := 10) (index := 31) (k := 92) (ref := "WetSuitPedalsShoesModel") (zk_lt (rfl : zk 92 = 10) (by decide)) (zd_10 E (rfl : zk 92 = 10) _) rfl (zmi inU_12) 10 (by decide) (zm flRX12_31) rfl (v := .ref (E.1 100)) (rfl) dX12_goes_24 ?_
        refine lv_iload hx hb dX12_goes_27 (lv_at hl 6 rfl) ?_
        refine lv_aload_n hx hb dX12_goes_29 rfl (lv_at hl 1 rfl) ?_
        refine lv_iload_n hx hb dX12_goes_30 rfl (lv_at hl 2 rfl) ?_
        refine lv_iload hx hb dX12_goes_31 (lv_at hl 6 rfl) ?_
        refine lv_iload hx hb dX12_goes_33 (lv_at hl 4 rfl) ?_
        refine lv_aload_n hx hb dX12_goes_35 rfl (lv_at hl 1 rfl) ?_
        refine lv_iload_n hx hb dX12_goes_36 rfl (lv_at hl 2 rfl) ?_
        refine lv_iload hx hb dX12_goes_37 (lv_at hl 6 rfl) ?_
        refine z_Si C0 hP hD hA hS (As := [.int (nI a), .int (nI i)]) (rest := [.ref (E.1 q), .int g, .int (nI i), .int (nI a), .ref (E.1 q), .int (nI i), .ref (E.1 100)]) (c_X12_tried l E _ a i) (va_cwS 2 hts (zgS zbw mlRX12_91 stX12_tried iniRX12 coX12_tried) rfl rfl rfl (by decide +kernel) ⟨Nat.le_of_ble_eq_true rfl, Nat.le_of_ble_eq_true rfl⟩) rfl hl.1 rfl (Nat.le_of_ble_eq_true rfl) dX12_goes_39 ⟨Nat.zero_le _, Nat.zero_le _⟩ (fun r2 G2 H locs hw2 hP hS => ?_)
        obtain ⟨hr2, rfl⟩ := hw2
        subst hr2
        refine z_eqi (y := (nI (52 + 10 * a + i))) (congrArg nI (by omega)) ?_
        refine z_iald C0 hP (k := q) (i := 52 + 10 * a + i) (v := (G q (52 + 10 * a + i))) (hq (0, 11, 102) (by decide)).1 (Nat.lt_of_lt_of_eq (show 52 + 10 * a + i < 102 by omega) (hq (0, 11, 102) (by decide)).2.symm) rfl dX12_goes_42 (congrFun (hF1 _ (by omega)) _) ?_
        refine z_Si C0 hP hD hA hS (As := [.ref (E.1 q), .int (nI a), .int (nI i), .int g, .int (G q (52 + 10 * a + i))]) (rest := [.int (nI i), .ref (E.1 100)]) (c_X12_secondsBy l E _ q a i g (G q (52 + 10 * a + i)) hq (by omega) (by omega)) (va_cwS 5 hts (zgS zbw mlRX12_94 stX12_secondsBy iniRX12 coX12_secondsBy) rfl rfl rfl (by decide +kernel) ⟨Nat.le_of_ble_eq_true rfl, Nat.le_of_ble_eq_true rfl⟩) rfl hl.1 rfl (Nat.le_of_ble_eq_true rfl) dX12_goes_43 ⟨Nat.zero_le _, Nat.zero_le _⟩ (fun r3 G3 H locs hw3 hP hS => ?_)
        obtain ⟨hr3, rfl⟩ := hw3
        have hr3 : s_sec (m_plain (G q) a i) (G q (52 + 10 * a + i)) g = _ := (congrArg (fun z_ : Nat → Int32 => s_sec (m_plain z_ a i) (G q (52 + 10 * a + i)) g) (show G1 q = G q from hF1 _ (by omega))).symm.trans hr3
        subst hr3
        refine z_iast C0 hP hD hS (k := 100) (i := i) (v := (s_sec (m_plain (G q) a i) (G q (52 + 10 * a + i)) g)) (F := G1 100) (rfl) (rfl : zk 100 = 11) (Nat.lt_of_lt_of_eq (show i < 10 by omega) (rfl : zl 100 = 10).symm) rfl dX12_goes_46 (fun H locs hP hS => ?_)
        refine lv_aload_n hx hb dX12_goes_47 rfl (lv_at hl 1 rfl) ?_
        refine lv_iload hx hb dX12_goes_48 (lv_at hl 6 rfl) ?_
        refine lv_iload hx hb dX12_goes_50 (lv_at hl 4 rfl) ?_
        refine lv_aload_n hx hb dX12_goes_52 rfl (lv_at hl 1 rfl) ?_
        refine lv_iload_n hx hb dX12_goes_53 rfl (lv_at hl 2 rfl) ?_
        refine lv_iload hx hb dX12_goes_54 (lv_at hl 6 rfl) ?_
        refine z_Si C0 hP hD hA hS (As := [.int (nI a), .int (nI i)]) (rest := [.ref (E.1 q), .int g, .int (nI i), .ref (E.1 q)]) (c_X12_tried l E _ a i) (va_cwS 2 hts (zgS zbw mlRX12_91 stX12_tried iniRX12 coX12_tried) rfl rfl rfl (by decide +kernel) ⟨Nat.le_of_ble_eq_true rfl, Nat.le_of_ble_eq_true rfl⟩) rfl hl.1 rfl (Nat.le_of_ble_eq_true rfl) dX12_goes_56 ⟨Nat.zero_le _, Nat.zero_le _⟩ (fun r4 G4 H locs hw4 hP hS => ?_)
        obtain ⟨hr4, rfl⟩ := hw4
        subst hr4
        refine z_eqi (y := (nI (52 + 10 * a + i))) (congrArg nI (by omega)) ?_
        refine z_iald C0 hP (k := q) (i := 52 + 10 * a + i) (v := (G q (52 + 10 * a + i))) (hq (0, 11, 102) (by decide)).1 (Nat.lt_of_lt_of_eq (show 52 + 10 * a + i < 102 by omega) (hq (0, 11, 102) (by decide)).2.symm) rfl dX12_goes_59 (congrFun ((g1_n (by omega)).trans (hF1 _ (by omega))) _) ?_
        refine z_Si C0 hP hD hA hS (As := [.ref (E.1 q), .int (nI i), .int g, .int (G q (52 + 10 * a + i))]) (rest := []) (c_X12_legsBehind l E _ q i g (G q (52 + 10 * a + i)) hq (by omega)) (va_cwS 4 hts (zgS zbw mlRX12_98 stX12_legsBehind iniRX12 coX12_legsBehind) rfl rfl rfl (by decide +kernel) ⟨Nat.le_of_ble_eq_true rfl, Nat.le_of_ble_eq_true rfl⟩) rfl hl.1 rfl (Nat.le_of_ble_eq_true rfl) dX12_goes_60 ⟨Nat.zero_le _, Nat.zero_le _⟩ (fun r5 G5 H locs hw5 hP hS => ?_)
        obtain ⟨hr5, rfl⟩ := hw5
        have hr5 : m_leg (G q (2 + 3 * i)) (G q (4 + 3 * i)) (G q (52 + 10 * a + i)) g = _ := (congrArg (fun z_ : Nat → Int32 => m_leg (z_ (2 + 3 * i)) (z_ (4 + 3 * i)) (G q (52 + 10 * a + i)) g) (show (g1 G1 100 (upd (G1 100) i (s_sec (m_plain (G q) a i) (G q (52 + 10 * a + i)) g))) q = G q from (g1_n (by omega)).trans (hF1 _ (by omega)))).symm.trans hr5
        subst hr5
        refine lv_istore (lv' := [(4, .int (m_leg (G q (2 + 3 * i)) (G q (4 + 3 * i)) (G q (52 + 10 * a + i)) g)), (0, .ref (E.1 92)), (1, .ref (E.1 q)), (2, .int (nI a)), (3, .int d), (5, .int sm), (6, .int (nI i))]) hx hb dX12_goes_63 hl (by decide) rfl (fun ls hl => ?_)
        refine lv_iload hx hb dX12_goes_65 (lv_at hl 6 rfl) ?_
        refine lv_iload_n hx hb dX12_goes_67 rfl (lv_at hl 4 rfl) ?_
        refine lv_icmp_ne (tgt := 83) hx hb dX12_goes_68 (by decide) (fun c_68 => ?_) (fun c_68 => ?_)
        · skip
          refine lv_aload_n hx hb dX12_goes_83 rfl (lv_at hl 1 rfl) ?_
          refine z_get C0 hP (C := RX12) (T := TX12) (N := 21) (ci := 10) (index := 34) (k := 92) (ref := "WetSuitPedalsShoesModel") (zk_lt (rfl : zk 92 = 10) (by decide)) (zd_10 E (rfl : zk 92 = 10) _) rfl (zmi inU_12) 11 (by decide) (zm flRX12_34) rfl (v := .ref (E.1 101)) (rfl) dX12_goes_84 ?_
          refine lv_iload hx hb dX12_goes_87 (lv_at hl 6 rfl) ?_
          refine lv_iload hx hb dX12_goes_89 (lv_at hl 0 rfl) ?_
          refine z_iast C0 hP hD hS (k := 101) (i := i) (v := (m_leg (G q (2 + 3 * i)) (G q (4 + 3 * i)) (G q (52 + 10 * a + i)) g)) (F := G1 101) (g1_n (by decide)) (rfl : zk 101 = 11) (Nat.lt_of_lt_of_eq (show i < 10 by omega) (rfl : zl 101 = 10).symm) rfl dX12_goes_91 (fun H locs hP hS => ?_)
          refine lv_iload hx hb dX12_goes_92 (lv_at hl 5 rfl) ?_
          refine lv_aload_n hx hb dX12_goes_94 rfl (lv_at hl 1 rfl) ?_
          refine z_get C0 hP (C := RX12) (T := TX12) (N := 21) (ci := 10) (index := 31) (k := 92) (ref := "WetSuitPedalsShoesModel") (zk_lt (rfl : zk 92 = 10) (by decide)) (zd_10 E (rfl : zk 92 = 10) _) rfl (zmi inU_12) 10 (by decide) (zm flRX12_31) rfl (v := .ref (E.1 100)) (rfl) dX12_goes_95 ?_
          refine lv_iload hx hb dX12_goes_98 (lv_at hl 6 rfl) ?_
          refine z_iald C0 hP (k := 100) (i := i) (v := (s_sec (m_plain (G q) a i) (G q (52 + 10 * a + i)) g)) (rfl : zk 100 = 11) (Nat.lt_of_lt_of_eq (show i < 10 by omega) (rfl : zl 100 = 10).symm) rfl dX12_goes_100 ((congrFun ((g1_n (by decide)).trans (g1_s _ _ _)) _).trans (pk_us)) ?_
          refine lv_iadd hx hb dX12_goes_101 ?_
          refine lv_istore (lv' := [(5, .int (sm + (s_sec (m_plain (G q) a i) (G q (52 + 10 * a + i)) g))), (4, .int (m_leg (G q (2 + 3 * i)) (G q (4 + 3 * i)) (G q (52 + 10 * a + i)) g)), (0, .ref (E.1 92)), (1, .ref (E.1 q)), (2, .int (nI a)), (3, .int d), (6, .int (nI i))]) hx hb dX12_goes_102 hl (by decide) rfl (fun ls hl => ?_)
          refine lv_aload_n hx hb dX12_goes_104 rfl (lv_at hl 2 rfl) ?_
          refine z_get C0 hP (C := RX12) (T := TX12) (N := 21) (ci := 10) (index := 37) (k := 92) (ref := "WetSuitPedalsShoesModel") (zk_lt (rfl : zk 92 = 10) (by decide)) (zd_10 E (rfl : zk 92 = 10) _) rfl (zmi inU_12) 12 (by decide) (zm flRX12_37) rfl (v := .ref (E.1 102)) (rfl) dX12_goes_105 ?_
          refine lv_iload hx hb dX12_goes_108 (lv_at hl 6 rfl) ?_
          refine lv_iload hx hb dX12_goes_110 (lv_at hl 0 rfl) ?_
          refine z_iast C0 hP hD hS (k := 102) (i := i) (v := (sm + (s_sec (m_plain (G q) a i) (G q (52 + 10 * a + i)) g))) (F := G1 102) ((g1_n (by decide)).trans (g1_n (by decide))) (rfl : zk 102 = 11) (Nat.lt_of_lt_of_eq (show i < 10 by omega) (rfl : zl 102 = 10).symm) rfl dX12_goes_112 (fun H locs hP hS => ?_)
          refine lv_iinc (v := (nI (i + 1))) (lv' := [(6, .int (nI (i + 1))), (5, .int (sm + (s_sec (m_plain (G q) a i) (G q (52 + 10 * a + i)) g))), (4, .int (m_leg (G q (2 + 3 * i)) (G q (4 + 3 * i)) (G q (52 + 10 * a + i)) g)), (0, .ref (E.1 92)), (1, .ref (E.1 q)), (2, .int (nI a)), (3, .int d)]) hx hb dX12_goes_113 hl (k := 6) rfl (z_inc (by decide)) (by decide) rfl (fun ls hl => ?_)
          refine lv_goto (tgt := 15) hx hb dX12_goes_116 (by decide) ?_
          exact ih_15 (i + 1) (m_leg (G q (2 + 3 * i)) (G q (4 + 3 * i)) (G q (52 + 10 * a + i)) g) (sm + (s_sec (m_plain (G q) a i) (G q (52 + 10 * a + i)) g)) (g1 (g1 (g1 G1 100 (upd (G1 100) i (s_sec (m_plain (G q) a i) (G q (52 + 10 * a + i)) g))) 101 (upd (G1 101) i (m_leg (G q (2 + 3 * i)) (G q (4 + 3 * i)) (G q (52 + 10 * a + i)) g))) 102 (upd (G1 102) i (sm + (s_sec (m_plain (G q) a i) (G q (52 + 10 * a + i)) g)))) _ _ _ (by first | assumption | omega) (by subst hg; simp [m_run, c_20, c_68]) (by subst hg; subst hsm; simp [m_run]) (by intro k hk; rw [g1_n (by omega)]; rw [g1_n (by omega)]; rw [g1_n (by omega)]; exact hF1 k hk) (by subst hg; subst hsm; intro j hj; rcases Nat.lt_or_ge j i with q | q; (exact ⟨(congrFun ((g1_n (by decide)).trans ((g1_n (by decide)).trans (g1_s _ _ _))) j).trans ((pk_un (by omega)).trans (hrow j q).1), (congrFun ((g1_n (by decide)).trans (g1_s _ _ _)) j).trans ((pk_un (by omega)).trans (hrow j q).2.1), (congrFun (g1_s _ _ _) j).trans ((pk_un (by omega)).trans (hrow j q).2.2)⟩); (have e9 : j = i := by omega); (subst e9; exact ⟨(congrFun ((g1_n (by decide)).trans ((g1_n (by decide)).trans (g1_s _ _ _))) _).trans (pk_us.trans (by simp [m_run, m_sc, c_20, c_68])), (congrFun ((g1_n (by decide)).trans (g1_s _ _ _)) _).trans (pk_us.trans (by simp [m_run, m_sc, c_20, c_68])), (congrFun (g1_s _ _ _) _).trans (pk_us.trans (by simp [m_run, m_sc, c_20, c_68]))⟩)) hP hS (lv_sub hl [3, 4, 5, 6, 2, 1, 0] rfl) (by omega)
        · skip
          refine lv_bipush (v := (99 : Int32)) hx hb dX12_goes_71 (by decide) ?_
          refine lv_iload hx hb dX12_goes_73 (lv_at hl 0 rfl) ?_
          refine lv_bipush (v := (20 : Int32)) hx hb dX12_goes_75 (by decide) ?_
          refine lv_iadd hx hb dX12_goes_77 ?_
          refine z_Si C0 hP hD hA hS (As := [.int (99 : Int32), .int ((m_leg (G q (2 + 3 * i)) (G q (4 + 3 * i)) (G q (52 + 10 * a + i)) g) + (20 : Int32))]) (rest := []) (c_X12_least l E _ (99 : Int32) ((m_leg (G q (2 + 3 * i)) (G q (4 + 3 * i)) (G q (52 + 10 * a + i)) g) + (20 : Int32))) (va_cwS 2 hts (zgS zbw mlRX12_88 stX12_least iniRX12 coX12_least) rfl rfl rfl (by decide +kernel) ⟨Nat.le_of_ble_eq_true rfl, Nat.le_of_ble_eq_true rfl⟩) rfl hl.1 rfl (Nat.le_of_ble_eq_true rfl) dX12_goes_78 ⟨Nat.zero_le _, Nat.zero_le _⟩ (fun r6 G6 H locs hw6 hP hS => ?_)
          obtain ⟨rfl, rfl⟩ := hw6
          refine lv_istore (lv' := [(4, .int (s_min (99 : Int32) ((m_leg (G q (2 + 3 * i)) (G q (4 + 3 * i)) (G q (52 + 10 * a + i)) g) + (20 : Int32)))), (0, .ref (E.1 92)), (1, .ref (E.1 q)), (2, .int (nI a)), (3, .int d), (5, .int sm), (6, .int (nI i))]) hx hb dX12_goes_81 hl (by decide) rfl (fun ls hl => ?_)
          refine lv_aload_n hx hb dX12_goes_83 rfl (lv_at hl 1 rfl) ?_
          refine z_get C0 hP (C := RX12) (T := TX12) (N := 21) (ci := 10) (index := 34) (k := 92) (ref := "WetSuitPedalsShoesModel") (zk_lt (rfl : zk 92 = 10) (by decide)) (zd_10 E (rfl : zk 92 = 10) _) rfl (zmi inU_12) 11 (by decide) (zm flRX12_34) rfl (v := .ref (E.1 101)) (rfl) dX12_goes_84 ?_
          refine lv_iload hx hb dX12_goes_87 (lv_at hl 6 rfl) ?_
          refine lv_iload hx hb dX12_goes_89 (lv_at hl 0 rfl) ?_
          refine z_iast C0 hP hD hS (k := 101) (i := i) (v := (s_min (99 : Int32) ((m_leg (G q (2 + 3 * i)) (G q (4 + 3 * i)) (G q (52 + 10 * a + i)) g) + (20 : Int32)))) (F := G1 101) (g1_n (by decide)) (rfl : zk 101 = 11) (Nat.lt_of_lt_of_eq (show i < 10 by omega) (rfl : zl 101 = 10).symm) rfl dX12_goes_91 (fun H locs hP hS => ?_)
          refine lv_iload hx hb dX12_goes_92 (lv_at hl 5 rfl) ?_
          refine lv_aload_n hx hb dX12_goes_94 rfl (lv_at hl 1 rfl) ?_
          refine z_get C0 hP (C := RX12) (T := TX12) (N := 21) (ci := 10) (index := 31) (k := 92) (ref := "WetSuitPedalsShoesModel") (zk_lt (rfl : zk 92 = 10) (by decide)) (zd_10 E (rfl : zk 92 = 10) _) rfl (zmi inU_12) 10 (by decide) (zm flRX12_31) rfl (v := .ref (E.1 100)) (rfl) dX12_goes_95 ?_
          refine lv_iload hx hb dX12_goes_98 (lv_at hl 6 rfl) ?_
          refine z_iald C0 hP (k := 100) (i := i) (v := (s_sec (m_plain (G q) a i) (G q (52 + 10 * a + i)) g)) (rfl : zk 100 = 11) (Nat.lt_of_lt_of_eq (show i < 10 by omega) (rfl : zl 100 = 10).symm) rfl dX12_goes_100 ((congrFun ((g1_n (by decide)).trans (g1_s _ _ _)) _).trans (pk_us)) ?_
          refine lv_iadd hx hb dX12_goes_101 ?_
          refine lv_istore (lv' := [(5, .int (sm + (s_sec (m_plain (G q) a i) (G q (52 + 10 * a + i)) g))), (4, .int (s_min (99 : Int32) ((m_leg (G q (2 + 3 * i)) (G q (4 + 3 * i)) (G q (52 + 10 * a + i)) g) + (20 : Int32)))), (0, .ref (E.1 92)), (1, .ref (E.1 q)), (2, .int (nI a)), (3, .int d), (6, .int (nI i))]) hx hb dX12_goes_102 hl (by decide) rfl (fun ls hl => ?_)
          refine lv_aload_n hx hb dX12_goes_104 rfl (lv_at hl 2 rfl) ?_
          refine z_get C0 hP (C := RX12) (T := TX12) (N := 21) (ci := 10) (index := 37) (k := 92) (ref := "WetSuitPedalsShoesModel") (zk_lt (rfl : zk 92 = 10) (by decide)) (zd_10 E (rfl : zk 92 = 10) _) rfl (zmi inU_12) 12 (by decide) (zm flRX12_37) rfl (v := .ref (E.1 102)) (rfl) dX12_goes_105 ?_
          refine lv_iload hx hb dX12_goes_108 (lv_at hl 6 rfl) ?_
          refine lv_iload hx hb dX12_goes_110 (lv_at hl 0 rfl) ?_
          refine z_iast C0 hP hD hS (k := 102) (i := i) (v := (sm + (s_sec (m_plain (G q) a i) (G q (52 + 10 * a + i)) g))) (F := G1 102) ((g1_n (by decide)).trans (g1_n (by decide))) (rfl : zk 102 = 11) (Nat.lt_of_lt_of_eq (show i < 10 by omega) (rfl : zl 102 = 10).symm) rfl dX12_goes_112 (fun H locs hP hS => ?_)
          refine lv_iinc (v := (nI (i + 1))) (lv' := [(6, .int (nI (i + 1))), (5, .int (sm + (s_sec (m_plain (G q) a i) (G q (52 + 10 * a + i)) g))), (4, .int (s_min (99 : Int32) ((m_leg (G q (2 + 3 * i)) (G q (4 + 3 * i)) (G q (52 + 10 * a + i)) g) + (20 : Int32)))), (0, .ref (E.1 92)), (1, .ref (E.1 q)), (2, .int (nI a)), (3, .int d)]) hx hb dX12_goes_113 hl (k := 6) rfl (z_inc (by decide)) (by decide) rfl (fun ls hl => ?_)
          refine lv_goto (tgt := 15) hx hb dX12_goes_116 (by decide) ?_
          exact ih_15 (i + 1) (s_min (99 : Int32) ((m_leg (G q (2 + 3 * i)) (G q (4 + 3 * i)) (G q (52 + 10 * a + i)) g) + (20 : Int32))) (sm + (s_sec (m_plain (G q) a i) (G q (52 + 10 * a + i)) g)) (g1 (g1 (g1 G1 100 (upd (G1 100) i (s_sec (m_plain (G q) a i) (G q (52 + 10 * a + i)) g))) 101 (upd (G1 101) i (s_min (99 : Int32) ((m_leg (G q (2 + 3 * i)) (G q (4 + 3 * i)) (G q (52 + 10 * a + i)) g) + (20 : Int32))))) 102 (upd (G1 102) i (sm + (s_sec (m_plain (G q) a i) (G q (52 + 10 * a + i)) g)))) _ _ _ (by first | assumption | omega) (by subst hg; simp [m_run, c_20, c_68]) (by subst hg; subst hsm; simp [m_run]) (by intro k hk; rw [g1_n (by omega)]; rw [g1_n (by omega)]; rw [g1_n (by omega)]; exact hF1 k hk) (by subst hg; subst hsm; intro j hj; rcases Nat.lt_or_ge j i with q | q; (exact ⟨(congrFun ((g1_n (by decide)).trans ((g1_n (by decide)).trans (g1_s _ _ _))) j).trans ((pk_un (by omega)).trans (hrow j q).1), (congrFun ((g1_n (by decide)).trans (g1_s _ _ _)) j).trans ((pk_un (by omega)).trans (hrow j q).2.1), (congrFun (g1_s _ _ _) j).trans ((pk_un (by omega)).trans (hrow j q).2.2)⟩); (have e9 : j = i := by omega); (subst e9; exact ⟨(congrFun ((g1_n (by decide)).trans ((g1_n (by decide)).trans (g1_s _ _ _))) _).trans (pk_us.trans (by simp [m_run, m_sc, c_20, c_68])), (congrFun ((g1_n (by decide)).trans (g1_s _ _ _)) _).trans (pk_us.trans (by simp [m_run, m_sc, c_20, c_68])), (congrFun (g1_s _ _ _) _).trans (pk_us.trans (by simp [m_run, m_sc, c_20, c_68]))⟩)) hP hS (lv_sub hl [3, 4, 5, 6, 2, 1, 0] rfl) (by omega)
  exact cut_15 (_ + 1) 0 (G q (35 + 4 * a)) (0 : Int32) G _ _ _ (by first | assumption | omega) (by rfl) (by rfl) (by exact fun _ _ => rfl) (by exact fun j hj => absurd hj (Nat.not_lt_zero j)) hP hS (lv_sub hl [3, 4, 5, 6, 2, 1, 0] rfl) (Nat.lt_succ_self _)
theorem mlRX12_102 : Cond.methodLink RX12 102 yX12_goes ∈ zU := zU_m 981 (by decide +kernel) rfl
theorem coX12_goes : Cond.code yX12_goes cX12_goes 7 (some .int) ∈ zU := zU_m 984 (by decide +kernel) rfl
theorem imX12_goes : Cond.instanceMethod yX12_goes ∈ zU := zU_m 983 (by decide +kernel) rfl
theorem seX12_goes : Cond.selects RX12 yX12_goes yX12_goes ∈ zU := zU_m 38 (by decide +kernel) rfl
set_option maxHeartbeats 4000000 in
set_option maxRecDepth 100000 in
theorem c_X12_finishOf (l : Launch) (E : zE) (G : zG) (q a n : Nat) (hq : zIs q tArr102) (ha : a < 5) (hn : G q 0 = nI n) (hn10 : n ≤ 10) (hq1 : q < 100) : zMi l yX12_finishOf wsX12_finishOf ({ frames := 5, cells := 0, slots := 0, locals := 120 } : Room) E G [.ref (E.1 92), .ref (E.1 q), .int (nI a)] (fun r G1 => (m_run (G q) a (-1) n).2 = r ∧ (∀ k, (k < 100 ∨ 102 < k) → G1 k = G k) ∧ ∀ j, j < n → G1 100 j = m_sc (G q) a (-1) j ∧ G1 101 j = (m_run (G q) a (-1) (j + 1)).1 ∧ G1 102 j = (m_run (G q) a (-1) (j + 1)).2) := by
  refine zOf (cc := cX12_finishOf) (nL := 3) (ret := (some .int)) RX12 (by decide) rfl rfl (Nat.le_of_ble_eq_true rfl) ?_
  intro p_ e_ s_ m_ a_ b_ me_ c_ ls C0 hP hS hl
  have hx := C0.1
  have hb := C0.2.1
  have hts := C0.2.2.2.2.1
  have hD : zD E (zA E s_.heap.size) := C0.2.2.2.2.2.2.2.2
  have hA : ∀ q : Nat, s_.heap.size ≤ q → zA E s_.heap.size q := fun q h => Or.inr h
  refine z_gen (fun Q_ hQ_ => ?_)
  have hl : lv_has ls 3 [(0, .ref (E.1 92)), (1, .ref (E.1 q)), (2, .int (nI a))] := hl
  refine lv_aload_n hx hb dX12_finishOf_0 rfl (lv_at hl 0 rfl) ?_
  refine lv_aload_n hx hb dX12_finishOf_1 rfl (lv_at hl 1 rfl) ?_
  refine lv_iload_n hx hb dX12_finishOf_2 rfl (lv_at hl 2 rfl) ?_
  refine lv_iconst (v := (-1 : Int32)) hx hb dX12_finishOf_3 (by decide) ?_
  refine z_Vi C0 hP hD hA hS (As := [.ref (E.1 q), .int (nI a), .int (-1 : Int32)]) (rest := []) (k := 92) (c_X12_goes l E _ q a n (-1 : Int32) hq (by omega) (hn) (by omega) (by omega)) (cwV 3 hts (zgV zbw mlRX12_102 imX12_goes seX12_goes iniRX12 coX12_goes) rfl rfl rfl (by decide +kernel) ⟨Nat.le_of_ble_eq_true rfl, Nat.le_of_ble_eq_true rfl⟩) (zk_lt (rfl : zk 92 = 10) (by decide)) (zd_10 E (rfl : zk 92 = 10) _) rfl rfl rfl hl.1 rfl (Nat.le_of_ble_eq_true rfl) dX12_finishOf_4 ⟨Nat.zero_le _, Nat.zero_le _⟩ (fun r1 G1 H locs hw1 hP hS => ?_)
  obtain ⟨hr1, hF1, hrow1⟩ := hw1
  subst hr1
  subst hQ_
  exact z_iret C0 hP hS (v := ((m_run (G q) a (-1 : Int32) n).2)) (by exact ⟨rfl, hF1, hrow1⟩) dX12_finishOf_7
set_option maxHeartbeats 4000000 in
set_option maxRecDepth 100000 in
theorem c_X12_lays (l : Launch) (E : zE) (G : zG) (q o : Nat) (hq : zIs q tArr102) (ho : zIs o tArr102) (hd : q ≠ o) : zMv l yX12_lays wsX12_lays ({ frames := 0, cells := 0, slots := 0, locals := 0 } : Room) E G [.ref (E.1 q), .ref (E.1 o)] (fun G1 => (∀ k, k ≠ o → G1 k = G k) ∧ ∀ j, j < 102 → G1 o j = G q j) := by
  refine zOf (cc := cX12_lays) (nL := 3) (ret := none) RX12 (by decide) rfl rfl (Nat.le_of_ble_eq_true rfl) ?_
  intro p_ e_ s_ m_ a_ b_ me_ c_ ls C0 hP hS hl
  have hx := C0.1
  have hb := C0.2.1
  have hts := C0.2.2.2.2.1
  have hD : zD E (zA E s_.heap.size) := C0.2.2.2.2.2.2.2.2
  have hA : ∀ q : Nat, s_.heap.size ≤ q → zA E s_.heap.size q := fun q h => Or.inr h
  refine z_gen (fun Q_ hQ_ => ?_)
  have hl : lv_has ls 3 [(0, .ref (E.1 q)), (1, .ref (E.1 o))] := hl
  refine lv_iconst (v := (0 : Int32)) hx hb dX12_lays_0 (by decide) ?_
  refine lv_istore_n (lv' := [(2, .int (0 : Int32)), (0, .ref (E.1 q)), (1, .ref (E.1 o))]) hx hb dX12_lays_1 rfl hl (by decide) rfl (fun ls hl => ?_)
  have cut_2 : ∀ (fuel : Nat), ∀ (i : Nat) (G1 : zG) (H : Heap) (locs : List Loc) (ls : Array Slot), (i ≤ 102) → (∀ k, k ≠ o → G1 k = G k) → (∀ j, j < i → G1 o j = G q j) → zP E G1 H → va_S (zA E s_.heap.size) s_.heap H locs → lv_has ls 3 [(0, .ref (E.1 q)), (1, .ref (E.1 o)), (2, .int (nI i))] → 102 - i < fuel → W p_ l e_ ({ frames := 0, cells := 0, slots := 0, locals := 0 } : Room) s_ m_ a_ b_ me_ c_ H locs 0 0 Q_ (F0 m_ 2 ls []) := by
    intro fuel
    induction fuel with
    | zero =>
      intro i  G1  H locs ls hin hF1 hrow hP hS hl hfu
      exact absurd hfu (Nat.not_lt_zero _)
    | succ fuel ih_2 =>
      intro i  G1  H locs ls hin hF1 hrow hP hS hl hfu_2
      refine lv_iload_n hx hb dX12_lays_2 rfl (lv_at hl 2 rfl) ?_
      refine lv_bipush (v := (102 : Int32)) hx hb dX12_lays_3 (by decide) ?_
      refine z_N_ge hx hb (a := i) (b := 102) (tgt := 20) dX12_lays_5 rfl rfl (by omega) (by omega) (by decide) (fun c_5 => ?_) (fun c_5 => ?_)
      · skip
        subst hQ_
        exact z_vret C0 hP hS (by exact ⟨hF1, fun j hj => hrow j (by omega)⟩) dX12_lays_20
      · skip
        refine lv_aload_n hx hb dX12_lays_8 rfl (lv_at hl 1 rfl) ?_
        refine lv_iload_n hx hb dX12_lays_9 rfl (lv_at hl 2 rfl) ?_
        refine lv_aload_n hx hb dX12_lays_10 rfl (lv_at hl 0 rfl) ?_
        refine lv_iload_n hx hb dX12_lays_11 rfl (lv_at hl 2 rfl) ?_
        refine z_iald C0 hP (k := q) (i := i) (v := (G q i)) (hq (0, 11, 102) (by decide)).1 (Nat.lt_of_lt_of_eq (show i < 102 by omega) (hq (0, 11, 102) (by decide)).2.symm) rfl dX12_lays_12 (congrFun (hF1 _ (by omega)) _) ?_
        refine z_iast C0 hP hD hS (k := o) (i := i) (v := (G q i)) (F := G1 o) (rfl) (ho (0, 11, 102) (by decide)).1 (Nat.lt_of_lt_of_eq (show i < 102 by omega) (ho (0, 11, 102) (by decide)).2.symm) rfl dX12_lays_13 (fun H locs hP hS => ?_)
        refine lv_iinc (v := (nI (i + 1))) (lv' := [(2, .int (nI (i + 1))), (0, .ref (E.1 q)), (1, .ref (E.1 o))]) hx hb dX12_lays_14 hl (k := 2) rfl (z_inc (by decide)) (by decide) rfl (fun ls hl => ?_)
        refine lv_goto (tgt := 2) hx hb dX12_lays_17 (by decide) ?_
        exact ih_2 (i + 1) (g1 G1 o (upd (G1 o) i (G q i))) _ _ _ (by first | assumption | omega) (by intro k hk; rw [g1_n hk]; exact hF1 k hk) (by intro j hj; rw [g1_s]; rcases Nat.lt_or_ge j i with q9 | q9; (rw [pk_un (by omega)]; exact hrow j q9); (have e9 : j = i := by omega); subst e9; rw [pk_us]) hP hS (lv_sub hl [1, 2, 0] rfl) (by omega)
  exact cut_2 (_ + 1) 0 G _ _ _ (by first | assumption | omega) (by exact fun _ _ => rfl) (by exact fun j hj => absurd hj (Nat.not_lt_zero j)) hP hS (lv_sub hl [1, 2, 0] rfl) (Nat.lt_succ_self _)
set_option maxHeartbeats 4000000 in
set_option maxRecDepth 100000 in
theorem c_X12_changes (l : Launch) (E : zE) (G : zG) (q i j : Nat) (hq : zIs q tArr102) (hi : i < 10) (hj : j < 10) (hij : i ≠ j) : zMv l yX12_changes wsX12_changes ({ frames := 1, cells := 0, slots := 0, locals := 21 } : Room) E G [.ref (E.1 92), .int (nI i), .int (nI j), .ref (E.1 q)] (fun G1 => g1 G q (s_chg (G q) i j 3) = G1) := by
  refine zOf (cc := cX12_changes) (nL := 6) (ret := none) RX12 (by decide) rfl rfl (Nat.le_of_ble_eq_true rfl) ?_
  intro p_ e_ s_ m_ a_ b_ me_ c_ ls C0 hP hS hl
  have hx := C0.1
  have hb := C0.2.1
  have hts := C0.2.2.2.2.1
  have hD : zD E (zA E s_.heap.size) := C0.2.2.2.2.2.2.2.2
  have hA : ∀ q : Nat, s_.heap.size ≤ q → zA E s_.heap.size q := fun q h => Or.inr h
  refine z_gen (fun Q_ hQ_ => ?_)
  have hl : lv_has ls 6 [(0, .ref (E.1 92)), (1, .int (nI i)), (2, .int (nI j)), (3, .ref (E.1 q))] := hl
  refine lv_iconst (v := (0 : Int32)) hx hb dX12_changes_0 (by decide) ?_
  refine lv_istore (lv' := [(4, .int (0 : Int32)), (0, .ref (E.1 92)), (1, .int (nI i)), (2, .int (nI j)), (3, .ref (E.1 q))]) hx hb dX12_changes_1 hl (by decide) rfl (fun ls hl => ?_)
  have cut_3 : ∀ (fuel : Nat), ∀ (k : Nat) (f : Nat → Int32) (H : Heap) (locs : List Loc) (ls : Array Slot), (k ≤ 3) → (f = s_chg (G q) i j k) → zP E (g1 G q f) H → va_S (zA E s_.heap.size) s_.heap H locs → lv_has ls 6 [(0, .ref (E.1 92)), (1, .int (nI i)), (2, .int (nI j)), (3, .ref (E.1 q)), (4, .int (nI k))] → 3 - k < fuel → W p_ l e_ ({ frames := 1, cells := 0, slots := 0, locals := 21 } : Room) s_ m_ a_ b_ me_ c_ H locs 0 0 Q_ (F0 m_ 3 ls []) := by
    intro fuel
    induction fuel with
    | zero =>
      intro k  f  H locs ls hk3 hf hP hS hl hfu
      exact absurd hfu (Nat.not_lt_zero _)
    | succ fuel ih_3 =>
      intro k  f  H locs ls hk3 hf hP hS hl hfu_3
      refine lv_iload hx hb dX12_changes_3 (lv_at hl 4 rfl) ?_
      refine lv_iconst (v := (3 : Int32)) hx hb dX12_changes_5 (by decide) ?_
      refine z_N_ge hx hb (a := k) (b := 3) (tgt := 51) dX12_changes_6 rfl rfl (by omega) (by omega) (by decide) (fun c_6 => ?_) (fun c_6 => ?_)
      · skip
        subst hQ_
        exact z_vret C0 hP hS (by rw [hf, show k = 3 by omega]) dX12_changes_51
      · skip
        refine lv_aload_n hx hb dX12_changes_9 rfl (lv_at hl 3 rfl) ?_
        refine lv_iload_n hx hb dX12_changes_10 rfl (lv_at hl 1 rfl) ?_
        refine lv_iload hx hb dX12_changes_11 (lv_at hl 4 rfl) ?_
        refine z_Si C0 hP hD hA hS (As := [.int (nI i), .int (nI k)]) (rest := [.ref (E.1 q)]) (c_X12_of l E _ i k) (va_cwS 2 hts (zgS zbw mlRX12_66 stX12_of iniRX12 coX12_of) rfl rfl rfl (by decide +kernel) ⟨Nat.le_of_ble_eq_true rfl, Nat.le_of_ble_eq_true rfl⟩) rfl hl.1 rfl (Nat.le_of_ble_eq_true rfl) dX12_changes_13 ⟨Nat.zero_le _, Nat.zero_le _⟩ (fun r1 G1 H locs hw1 hP hS => ?_)
        obtain ⟨hr1, rfl⟩ := hw1
        subst hr1
        refine z_eqi (y := (nI (2 + 3 * i + k))) (congrArg nI (by omega)) ?_
        refine z_iald C0 hP (k := q) (i := 2 + 3 * i + k) (v := (f (2 + 3 * i + k))) (hq (0, 11, 102) (by decide)).1 (Nat.lt_of_lt_of_eq (show 2 + 3 * i + k < 102 by omega) (hq (0, 11, 102) (by decide)).2.symm) rfl dX12_changes_16 (congrFun (g1_s _ _ _) _) ?_
        refine lv_istore (lv' := [(5, .int (f (2 + 3 * i + k))), (0, .ref (E.1 92)), (1, .int (nI i)), (2, .int (nI j)), (3, .ref (E.1 q)), (4, .int (nI k))]) hx hb dX12_changes_17 hl (by decide) rfl (fun ls hl => ?_)
        refine lv_aload_n hx hb dX12_changes_19 rfl (lv_at hl 4 rfl) ?_
        refine lv_iload_n hx hb dX12_changes_20 rfl (lv_at hl 2 rfl) ?_
        refine lv_iload hx hb dX12_changes_21 (lv_at hl 5 rfl) ?_
        refine z_Si C0 hP hD hA hS (As := [.int (nI i), .int (nI k)]) (rest := [.ref (E.1 q)]) (c_X12_of l E _ i k) (va_cwS 2 hts (zgS zbw mlRX12_66 stX12_of iniRX12 coX12_of) rfl rfl rfl (by decide +kernel) ⟨Nat.le_of_ble_eq_true rfl, Nat.le_of_ble_eq_true rfl⟩) rfl hl.1 rfl (Nat.le_of_ble_eq_true rfl) dX12_changes_23 ⟨Nat.zero_le _, Nat.zero_le _⟩ (fun r2 G2 H locs hw2 hP hS => ?_)
        obtain ⟨hr2, rfl⟩ := hw2
        subst hr2
        refine z_eqi (y := (nI (2 + 3 * i + k))) (congrArg nI (by omega)) ?_
        refine lv_aload_n hx hb dX12_changes_26 rfl (lv_at hl 4 rfl) ?_
        refine lv_iload_n hx hb dX12_changes_27 rfl (lv_at hl 3 rfl) ?_
        refine lv_iload hx hb dX12_changes_28 (lv_at hl 5 rfl) ?_
        refine z_Si C0 hP hD hA hS (As := [.int (nI j), .int (nI k)]) (rest := [.ref (E.1 q), .int (nI (2 + 3 * i + k)), .ref (E.1 q)]) (c_X12_of l E _ j k) (va_cwS 2 hts (zgS zbw mlRX12_66 stX12_of iniRX12 coX12_of) rfl rfl rfl (by decide +kernel) ⟨Nat.le_of_ble_eq_true rfl, Nat.le_of_ble_eq_true rfl⟩) rfl hl.1 rfl (Nat.le_of_ble_eq_true rfl) dX12_changes_30 ⟨Nat.zero_le _, Nat.zero_le _⟩ (fun r3 G3 H locs hw3 hP hS => ?_)
        obtain ⟨hr3, rfl⟩ := hw3
        subst hr3
        refine z_eqi (y := (nI (2 + 3 * j + k))) (congrArg nI (by omega)) ?_
        refine z_iald C0 hP (k := q) (i := 2 + 3 * j + k) (v := (f (2 + 3 * j + k))) (hq (0, 11, 102) (by decide)).1 (Nat.lt_of_lt_of_eq (show 2 + 3 * j + k < 102 by omega) (hq (0, 11, 102) (by decide)).2.symm) rfl dX12_changes_33 (congrFun (g1_s _ _ _) _) ?_
        refine z_iast C0 hP hD hS (k := q) (i := 2 + 3 * i + k) (v := (f (2 + 3 * j + k))) (F := f) (g1_s _ _ _) (hq (0, 11, 102) (by decide)).1 (Nat.lt_of_lt_of_eq (show 2 + 3 * i + k < 102 by omega) (hq (0, 11, 102) (by decide)).2.symm) rfl dX12_changes_34 (fun H locs hP hS => ?_)
        have hP := zP_eq (g1_t _ _ _ _ : _ = (g1 G q (upd f (2 + 3 * i + k) (f (2 + 3 * j + k))))) hP
        refine lv_aload_n hx hb dX12_changes_35 rfl (lv_at hl 4 rfl) ?_
        refine lv_iload_n hx hb dX12_changes_36 rfl (lv_at hl 3 rfl) ?_
        refine lv_iload hx hb dX12_changes_37 (lv_at hl 5 rfl) ?_
        refine z_Si C0 hP hD hA hS (As := [.int (nI j), .int (nI k)]) (rest := [.ref (E.1 q)]) (c_X12_of l E _ j k) (va_cwS 2 hts (zgS zbw mlRX12_66 stX12_of iniRX12 coX12_of) rfl rfl rfl (by decide +kernel) ⟨Nat.le_of_ble_eq_true rfl, Nat.le_of_ble_eq_true rfl⟩) rfl hl.1 rfl (Nat.le_of_ble_eq_true rfl) dX12_changes_39 ⟨Nat.zero_le _, Nat.zero_le _⟩ (fun r4 G4 H locs hw4 hP hS => ?_)
        obtain ⟨hr4, rfl⟩ := hw4
        subst hr4
        refine z_eqi (y := (nI (2 + 3 * j + k))) (congrArg nI (by omega)) ?_
        refine lv_iload hx hb dX12_changes_42 (lv_at hl 0 rfl) ?_
        refine z_iast C0 hP hD hS (k := q) (i := 2 + 3 * j + k) (v := (f (2 + 3 * i + k))) (F := (upd f (2 + 3 * i + k) (f (2 + 3 * j + k)))) (g1_s _ _ _) (hq (0, 11, 102) (by decide)).1 (Nat.lt_of_lt_of_eq (show 2 + 3 * j + k < 102 by omega) (hq (0, 11, 102) (by decide)).2.symm) rfl dX12_changes_44 (fun H locs hP hS => ?_)
        have hP := zP_eq (g1_t _ _ _ _ : _ = (g1 G q (upd (upd f (2 + 3 * i + k) (f (2 + 3 * j + k))) (2 + 3 * j + k) (f (2 + 3 * i + k))))) hP
        refine lv_iinc (v := (nI (k + 1))) (lv' := [(4, .int (nI (k + 1))), (5, .int (f (2 + 3 * i + k))), (0, .ref (E.1 92)), (1, .int (nI i)), (2, .int (nI j)), (3, .ref (E.1 q))]) hx hb dX12_changes_45 hl (k := 5) rfl (z_inc (by decide)) (by decide) rfl (fun ls hl => ?_)
        refine lv_goto (tgt := 3) hx hb dX12_changes_48 (by decide) ?_
        exact ih_3 (k + 1) (upd (upd f (2 + 3 * i + k) (f (2 + 3 * j + k))) (2 + 3 * j + k) (f (2 + 3 * i + k))) _ _ _ (by first | assumption | omega) (by subst hf; rfl) hP hS (lv_sub hl [2, 3, 4, 5, 0] rfl) (by omega)
  exact cut_3 (_ + 1) 0 (G q) _ _ _ (by first | assumption | omega) (by rfl) (zP_eq ((g1_e G q).symm) hP) hS (lv_sub hl [1, 2, 3, 4, 0] rfl) (Nat.lt_succ_self _)
