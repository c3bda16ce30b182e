/-! laid by wip/whole/vcg.py -/
set_option maxHeartbeats 4000000 in
set_option maxRecDepth 100000 in
theorem c_X12_weakest (l : Launch) (E : zE) (G : zG) (r : Nat → Int32) (n na : Nat) (athlete : Int32) (hM : G 93 = r) (hrn : r 0 = nI n) (hrna : r 1 = nI na) (hn10 : n ≤ 10) (hna : na ≤ 5) : zMi l yX12_weakest wsX12_weakest ({ frames := 6, cells := 0, slots := 0, locals := 142 } : Room) E G [.ref (E.1 92), .int athlete] (fun r1 G1 => zQm (A_weakest r n na athlete) G r1 G1) := by
  refine zOf (cc := cX12_weakest) (nL := 5) (ret := (some .int)) RX12 (by decide) rfl rfl (Nat.le_of_ble_eq_true rfl) ?_
  intro p_ e_ s_ m_ a_ b_ me_ c_ ls C0 hP hS hl
  have hx := C0.1
  have hb := C0.2.1
  have hts := C0.2.2.2.2.1
  have hD : zD E (zA E s_.heap.size) := C0.2.2.2.2.2.2.2.2
  have hA : ∀ q : Nat, s_.heap.size ≤ q → zA E s_.heap.size q := fun q h => Or.inr h
  refine z_gen (fun Q_ hQ_ => ?_)
  have hl : lv_has ls 5 [(0, .ref (E.1 92)), (1, .int athlete)] := hl
  refine lv_aload_n hx hb dX12_weakest_0 rfl (lv_at hl 0 rfl) ?_
  refine lv_iload_n hx hb dX12_weakest_1 rfl (lv_at hl 1 rfl) ?_
  refine z_Vi C0 hP hD hA hS (As := [.int athlete]) (rest := []) (k := 92) (c_X12_isAthlete l E _ na athlete ((congrFun (hM) _).trans (hrna)) (by omega)) (cwV 1 hts (zgV zbw mlRX12_136 imX12_isAthlete seX12_isAthlete iniRX12 coX12_isAthlete) rfl rfl rfl (by decide +kernel) ⟨Nat.le_of_ble_eq_true rfl, Nat.le_of_ble_eq_true rfl⟩) (zk_lt (rfl : zk 92 = 10) (by decide)) (zd_10 E (rfl : zk 92 = 10) _) rfl rfl rfl hl.1 rfl (Nat.le_of_ble_eq_true rfl) dX12_weakest_2 ⟨Nat.zero_le _, Nat.zero_le _⟩ (fun r1 G1 H locs hw1 hP hS => ?_)
  rcases hw1 with ⟨rfl, rfl, ia, hia, rfl⟩ | ⟨rfl, rfl, hno1⟩
  · skip
    have hz_ia := zin_t hia (by omega)
    have hy_ia : zix (nI ia) = ia := zix_n (by omega)
    refine lv_if_ne (tgt := 14) hx hb dX12_weakest_5 (by decide) (fun _ => ?_) (fun h_ => absurd h_ (by decide))
    refine lv_aload_n hx hb dX12_weakest_14 rfl (lv_at hl 0 rfl) ?_
    refine lv_aload_n hx hb dX12_weakest_15 rfl (lv_at hl 0 rfl) ?_
    refine z_get C0 hP (C := RX12) (T := TX12) (N := 21) (ci := 10) (index := 9) (k := 92) (ref := "WetSuitPedalsShoesModel") (zk_lt (rfl : zk 92 = 10) (by decide)) (zd_10 E (rfl : zk 92 = 10) _) rfl (zmi inU_12) 0 (by decide) (zm flRX12_9) rfl (v := .ref (E.1 93)) (rfl) dX12_weakest_16 ?_
    refine lv_iload_n hx hb dX12_weakest_19 rfl (lv_at hl 1 rfl) ?_
    refine z_Vi C0 hP hD hA hS (As := [.ref (E.1 93), .int (nI ia)]) (rest := []) (k := 92) (c_X12_finishOf l E _ 93 ia n z_lit_Arr102_93 (by omega) ((congrFun (hM) _).trans (hrn)) (by omega) (by omega)) (cwV 2 hts (zgV zbw mlRX12_156 imX12_finishOf seX12_finishOf iniRX12 coX12_finishOf) rfl rfl rfl (by decide +kernel) ⟨Nat.le_of_ble_eq_true rfl, Nat.le_of_ble_eq_true rfl⟩) (zk_lt (rfl : zk 92 = 10) (by decide)) (zd_10 E (rfl : zk 92 = 10) _) rfl rfl rfl hl.1 rfl (Nat.le_of_ble_eq_true rfl) dX12_weakest_20 ⟨Nat.zero_le _, Nat.zero_le _⟩ (fun r2 G2 H locs hw2 hP hS => ?_)
    obtain ⟨hr2, hF2, hrow2⟩ := hw2
    rw [show G 93 = r from hM] at hr2 hrow2
    subst hr2
    refine lv_istore_n (lv' := [(2, .int (q_fin r n ia)), (0, .ref (E.1 92)), (1, .int (nI ia))]) hx hb dX12_weakest_23 rfl hl (by decide) rfl (fun ls hl => ?_)
    refine lv_bipush (v := (-9 : Int32)) hx hb dX12_weakest_24 (by decide) ?_
    refine lv_istore_n (lv' := [(3, .int (-9 : Int32)), (2, .int (q_fin r n ia)), (0, .ref (E.1 92)), (1, .int (nI ia))]) hx hb dX12_weakest_26 rfl hl (by decide) rfl (fun ls hl => ?_)
    refine lv_iconst (v := (0 : Int32)) hx hb dX12_weakest_27 (by decide) ?_
    refine lv_istore (lv' := [(4, .int (0 : Int32)), (3, .int (-9 : Int32)), (2, .int (q_fin r n ia)), (0, .ref (E.1 92)), (1, .int (nI ia))]) hx hb dX12_weakest_28 hl (by decide) rfl (fun ls hl => ?_)
    have cut_30 : ∀ (fuel : Nat), ∀ (i m : Nat) (mo : Int32) (H : Heap) (locs : List Loc) (ls : Array Slot), (i ≤ n) → (m = s_slow (m_sc r ia (-1)) (fun i => r (4 + 3 * i)) i) → (mo = s_or9 m) → zP E G2 H → va_S (zA E s_.heap.size) s_.heap H locs → lv_has ls 5 [(0, .ref (E.1 92)), (1, .int (nI ia)), (2, .int (q_fin r n ia)), (3, .int mo), (4, .int (nI i))] → n - i < fuel → W p_ l e_ ({ frames := 6, cells := 0, slots := 0, locals := 142 } : Room) s_ m_ a_ b_ me_ c_ H locs 0 0 Q_ (F0 m_ 30 ls []) := by
      intro fuel
      induction fuel with
      | zero =>
        intro i m  mo  H locs ls hin hm hmo hP hS hl hfu
        exact absurd hfu (Nat.not_lt_zero _)
      | succ fuel ih_30 =>
        intro i m  mo  H locs ls hin hm hmo hP hS hl hfu_30
        refine lv_iload hx hb dX12_weakest_30 (lv_at hl 4 rfl) ?_
        refine lv_aload_n hx hb dX12_weakest_32 rfl (lv_at hl 0 rfl) ?_
        refine z_get C0 hP (C := RX12) (T := TX12) (N := 21) (ci := 10) (index := 9) (k := 92) (ref := "WetSuitPedalsShoesModel") (zk_lt (rfl : zk 92 = 10) (by decide)) (zd_10 E (rfl : zk 92 = 10) _) rfl (zmi inU_12) 0 (by decide) (zm flRX12_9) rfl (v := .ref (E.1 93)) (rfl) dX12_weakest_33 ?_
        refine lv_iconst (v := (0 : Int32)) hx hb dX12_weakest_36 (by decide) ?_
        refine z_iald C0 hP (k := 93) (i := 0) (v := (nI n)) (rfl : zk 93 = 11) (Nat.lt_of_lt_of_eq (show 0 < 102 by decide) (rfl : zl 93 = 102).symm) rfl dX12_weakest_37 ((congrFun ((hF2 _ (by decide)).trans (hM)) _).trans (hrn)) ?_
        refine z_N_ge hx hb (a := i) (b := n) (tgt := 93) dX12_weakest_38 rfl rfl (by omega) (by omega) (by decide) (fun c_38 => ?_) (fun c_38 => ?_)
        · skip
          have e9 := (show s_or9 (s_slow (m_sc r ia (-1)) (fun i => r (4 + 3 * i)) n) = mo by rw [hmo, hm, show i = n by omega])
          refine lv_iload_n hx hb dX12_weakest_93 rfl (lv_at hl 3 rfl) ?_
          subst hQ_
          exact z_iret C0 hP hS (v := mo) (by exact zQm_of (k := 0) (by simp [A_weakest, hz_ia, hy_ia, c_38, e9]) (fun k hk => hF2 k (by omega)) (hF2 _ (by decide))) dX12_weakest_94
        · skip
          refine lv_iload_n hx hb dX12_weakest_41 rfl (lv_at hl 3 rfl) ?_
          refine lv_if_lt (tgt := 84) hx hb dX12_weakest_42 (by decide) (fun c_42 => ?_) (fun c_42 => ?_)
          · skip
            have hm9 : m = 99 := s_or9_neg (hmo ▸ c_42) (by rcases s_slow_lt (sc := m_sc r ia (-1)) (ln := fun i => r (4 + 3 * i)) (i := i) with q | q <;> omega)
            refine lv_iload hx hb dX12_weakest_84 (lv_at hl 4 rfl) ?_
            refine lv_istore_n (lv' := [(3, .int (nI i)), (0, .ref (E.1 92)), (1, .int (nI ia)), (2, .int (q_fin r n ia)), (4, .int (nI i))]) hx hb dX12_weakest_86 rfl hl (by decide) rfl (fun ls hl => ?_)
            refine lv_iinc (v := (nI (i + 1))) (lv' := [(4, .int (nI (i + 1))), (3, .int (nI i)), (0, .ref (E.1 92)), (1, .int (nI ia)), (2, .int (q_fin r n ia))]) hx hb dX12_weakest_87 hl (k := 4) rfl (z_inc (by decide)) (by decide) rfl (fun ls hl => ?_)
            refine lv_goto (tgt := 30) hx hb dX12_weakest_90 (by decide) ?_
            exact ih_30 (i + 1) (s_slow (m_sc r ia (-1)) (fun i => r (4 + 3 * i)) (i + 1)) (nI i) _ _ _ (by first | assumption | omega) (by rfl) (by have e9 : s_slow (m_sc r ia (-1)) (fun i => r (4 + 3 * i)) (i + 1) = i := if_pos (by first | exact Or.inl (hm ▸ hm9) | exact Or.inr (hm ▸ d_81)); rw [e9]; unfold s_or9; rw [if_neg (by omega)]) hP hS (lv_sub hl [2, 3, 4, 1, 0] rfl) (by omega)
          · skip
            have hm2 : ¬ m = 99 := fun q => c_42 (by rw [hmo, q]; decide)
            have hm3 : m < i := by rcases s_slow_lt (sc := m_sc r ia (-1)) (ln := fun i => r (4 + 3 * i)) (i := i) with q | q <;> omega
            have hm4 : mo = nI m := by rw [hmo]; unfold s_or9; rw [if_neg hm2]
            subst hm4
            refine lv_aload_n hx hb dX12_weakest_45 rfl (lv_at hl 0 rfl) ?_
            refine z_get C0 hP (C := RX12) (T := TX12) (N := 21) (ci := 10) (index := 31) (k := 92) (ref := "WetSuitPedalsShoesModel") (zk_lt (rfl : zk 92 = 10) (by decide)) (zd_10 E (rfl : zk 92 = 10) _) rfl (zmi inU_12) 10 (by decide) (zm flRX12_31) rfl (v := .ref (E.1 100)) (rfl) dX12_weakest_46 ?_
            refine lv_iload hx hb dX12_weakest_49 (lv_at hl 4 rfl) ?_
            refine z_iald C0 hP (k := 100) (i := i) (v := (m_sc r ia (-1) i)) (rfl : zk 100 = 11) (Nat.lt_of_lt_of_eq (show i < 10 by omega) (rfl : zl 100 = 10).symm) rfl dX12_weakest_51 ((hrow2 i (by omega)).1) ?_
            refine lv_aload_n hx hb dX12_weakest_52 rfl (lv_at hl 0 rfl) ?_
            refine z_get C0 hP (C := RX12) (T := TX12) (N := 21) (ci := 10) (index := 9) (k := 92) (ref := "WetSuitPedalsShoesModel") (zk_lt (rfl : zk 92 = 10) (by decide)) (zd_10 E (rfl : zk 92 = 10) _) rfl (zmi inU_12) 0 (by decide) (zm flRX12_9) rfl (v := .ref (E.1 93)) (rfl) dX12_weakest_53 ?_
            refine lv_iload_n hx hb dX12_weakest_56 rfl (lv_at hl 3 rfl) ?_
            refine lv_iconst (v := (2 : Int32)) hx hb dX12_weakest_57 (by decide) ?_
            refine z_Si C0 hP hD hA hS (As := [.int (nI m), .int (2 : Int32)]) (rest := [.ref (E.1 93), .int (m_sc r ia (-1) i)]) (c_X12_of l E _ m 2) (va_cwS 2 hts (zgS zbw mlRX12_66 stX12_of iniRX12 coX12_of) rfl rfl rfl (by decide +kernel) ⟨Nat.le_of_ble_eq_true rfl, Nat.le_of_ble_eq_true rfl⟩) rfl hl.1 rfl (Nat.le_of_ble_eq_true rfl) dX12_weakest_58 ⟨Nat.zero_le _, Nat.zero_le _⟩ (fun r3 G3 H locs hw3 hP hS => ?_)
            obtain ⟨hr3, rfl⟩ := hw3
            subst hr3
            refine z_eqi (y := (nI (4 + 3 * m))) (congrArg nI (by omega)) ?_
            refine z_iald C0 hP (k := 93) (i := 4 + 3 * m) (v := (r (4 + 3 * m))) (rfl : zk 93 = 11) (Nat.lt_of_lt_of_eq (show 4 + 3 * m < 102 by omega) (rfl : zl 93 = 102).symm) rfl dX12_weakest_61 (congrFun ((hF2 _ (by decide)).trans (hM)) _) ?_
            refine lv_imul hx hb dX12_weakest_62 ?_
            refine lv_aload_n hx hb dX12_weakest_63 rfl (lv_at hl 0 rfl) ?_
            refine z_get C0 hP (C := RX12) (T := TX12) (N := 21) (ci := 10) (index := 31) (k := 92) (ref := "WetSuitPedalsShoesModel") (zk_lt (rfl : zk 92 = 10) (by decide)) (zd_10 E (rfl : zk 92 = 10) _) rfl (zmi inU_12) 10 (by decide) (zm flRX12_31) rfl (v := .ref (E.1 100)) (rfl) dX12_weakest_64 ?_
            refine lv_iload_n hx hb dX12_weakest_67 rfl (lv_at hl 3 rfl) ?_
            refine z_iald C0 hP (k := 100) (i := m) (v := (m_sc r ia (-1) m)) (rfl : zk 100 = 11) (Nat.lt_of_lt_of_eq (show m < 10 by omega) (rfl : zl 100 = 10).symm) rfl dX12_weakest_68 ((hrow2 m (by omega)).1) ?_
            refine lv_aload_n hx hb dX12_weakest_69 rfl (lv_at hl 0 rfl) ?_
            refine z_get C0 hP (C := RX12) (T := TX12) (N := 21) (ci := 10) (index := 9) (k := 92) (ref := "WetSuitPedalsShoesModel") (zk_lt (rfl : zk 92 = 10) (by decide)) (zd_10 E (rfl : zk 92 = 10) _) rfl (zmi inU_12) 0 (by decide) (zm flRX12_9) rfl (v := .ref (E.1 93)) (rfl) dX12_weakest_70 ?_
            refine lv_iload hx hb dX12_weakest_73 (lv_at hl 4 rfl) ?_
            refine lv_iconst (v := (2 : Int32)) hx hb dX12_weakest_75 (by decide) ?_
            refine z_Si C0 hP hD hA hS (As := [.int (nI i), .int (2 : Int32)]) (rest := [.ref (E.1 93), .int (m_sc r ia (-1) m), .int ((m_sc r ia (-1) i) * (r (4 + 3 * m)))]) (c_X12_of l E _ i 2) (va_cwS 2 hts (zgS zbw mlRX12_66 stX12_of iniRX12 coX12_of) rfl rfl rfl (by decide +kernel) ⟨Nat.le_of_ble_eq_true rfl, Nat.le_of_ble_eq_true rfl⟩) rfl hl.1 rfl (Nat.le_of_ble_eq_true rfl) dX12_weakest_76 ⟨Nat.zero_le _, Nat.zero_le _⟩ (fun r4 G4 H locs hw4 hP hS => ?_)
            obtain ⟨hr4, rfl⟩ := hw4
            subst hr4
            refine z_eqi (y := (nI (4 + 3 * i))) (congrArg nI (by omega)) ?_
            refine z_iald C0 hP (k := 93) (i := 4 + 3 * i) (v := (r (4 + 3 * i))) (rfl : zk 93 = 11) (Nat.lt_of_lt_of_eq (show 4 + 3 * i < 102 by omega) (rfl : zl 93 = 102).symm) rfl dX12_weakest_79 (congrFun ((hF2 _ (by decide)).trans (hM)) _) ?_
            refine lv_imul hx hb dX12_weakest_80 ?_
            refine lv_icmp_le (tgt := 87) hx hb dX12_weakest_81 (by decide) (fun c_81 => ?_) (fun c_81 => ?_)
            · skip
              have d_81 := Int32.not_lt.mpr c_81
              refine lv_iinc (v := (nI (i + 1))) (lv' := [(4, .int (nI (i + 1))), (0, .ref (E.1 92)), (1, .int (nI ia)), (2, .int (q_fin r n ia)), (3, .int (nI m))]) hx hb dX12_weakest_87 hl (k := 4) rfl (z_inc (by decide)) (by decide) rfl (fun ls hl => ?_)
              refine lv_goto (tgt := 30) hx hb dX12_weakest_90 (by decide) ?_
              exact ih_30 (i + 1) (s_slow (m_sc r ia (-1)) (fun i => r (4 + 3 * i)) (i + 1)) (nI m) _ _ _ (by first | assumption | omega) (by rfl) (by have e9 : s_slow (m_sc r ia (-1)) (fun i => r (4 + 3 * i)) (i + 1) = m := (if_neg (fun q => by rw [← hm] at q; rcases q with q | q; (exact hm2 q); (exact d_81 q))).trans hm.symm; rw [e9]; unfold s_or9; rw [if_neg hm2]) hP hS (lv_sub hl [1, 2, 3, 4, 0] rfl) (by omega)
            · skip
              have d_81 := Int32.not_le.mp c_81
              refine lv_iload hx hb dX12_weakest_84 (lv_at hl 4 rfl) ?_
              refine lv_istore_n (lv' := [(3, .int (nI i)), (0, .ref (E.1 92)), (1, .int (nI ia)), (2, .int (q_fin r n ia)), (4, .int (nI i))]) hx hb dX12_weakest_86 rfl hl (by decide) rfl (fun ls hl => ?_)
              refine lv_iinc (v := (nI (i + 1))) (lv' := [(4, .int (nI (i + 1))), (3, .int (nI i)), (0, .ref (E.1 92)), (1, .int (nI ia)), (2, .int (q_fin r n ia))]) hx hb dX12_weakest_87 hl (k := 4) rfl (z_inc (by decide)) (by decide) rfl (fun ls hl => ?_)
              refine lv_goto (tgt := 30) hx hb dX12_weakest_90 (by decide) ?_
              exact ih_30 (i + 1) (s_slow (m_sc r ia (-1)) (fun i => r (4 + 3 * i)) (i + 1)) (nI i) _ _ _ (by first | assumption | omega) (by rfl) (by have e9 : s_slow (m_sc r ia (-1)) (fun i => r (4 + 3 * i)) (i + 1) = i := if_pos (by first | exact Or.inl (hm ▸ hm9) | exact Or.inr (hm ▸ d_81)); rw [e9]; unfold s_or9; rw [if_neg (by omega)]) hP hS (lv_sub hl [2, 3, 4, 1, 0] rfl) (by omega)
    exact cut_30 (_ + 1) 0 (s_slow (m_sc r ia (-1)) (fun i => r (4 + 3 * i)) 0) (-9 : Int32) _ _ _ (by first | assumption | omega) (by rfl) (by rfl) hP hS (lv_sub hl [3, 4, 2, 1, 0] rfl) (Nat.lt_succ_self _)
  · skip
    have hz_ia := zin_f (by omega) hno1
    refine lv_if_ne (tgt := 14) hx hb dX12_weakest_5 (by decide) (fun h_ => absurd (by decide) h_) (fun _ => ?_)
    refine lv_aload_n hx hb dX12_weakest_8 rfl (lv_at hl 0 rfl) ?_
    refine lv_iconst (v := (-1 : Int32)) hx hb dX12_weakest_9 (by decide) ?_
    refine z_Vi C0 hP hD hA hS (As := [.int (-1 : Int32)]) (rest := []) (k := 92) (c_X12_no l E _ (-1 : Int32) 1 (by decide) (by decide)) (cwV 1 hts (zgV zbw mlRX12_56 imX12_no seX12_no iniRX12 coX12_no) rfl rfl rfl (by decide +kernel) ⟨Nat.le_of_ble_eq_true rfl, Nat.le_of_ble_eq_true rfl⟩) (zk_lt (rfl : zk 92 = 10) (by decide)) (zd_10 E (rfl : zk 92 = 10) _) rfl rfl rfl hl.1 rfl (Nat.le_of_ble_eq_true rfl) dX12_weakest_10 ⟨Nat.zero_le _, Nat.zero_le _⟩ (fun r5 G5 H locs hw5 hP hS => ?_)
    obtain ⟨rfl, rfl⟩ := hw5
    subst hQ_
    exact z_iret C0 hP hS (v := (-1 : Int32)) (by exact zQm_of (k := 1) (by simp [A_weakest, hz_ia]) (fun k hk => g1_n (by omega)) (g1_s _ _ _)) dX12_weakest_13
theorem mlRX12_170 : Cond.methodLink RX12 170 yX12_finishWith ∈ zU := zU_m 1048 (by decide +kernel) rfl
theorem coX12_finishWith : Cond.code yX12_finishWith cX12_finishWith 4 (some .int) ∈ zU := zU_m 1051 (by decide +kernel) rfl
theorem imX12_finishWith : Cond.instanceMethod yX12_finishWith ∈ zU := zU_m 1050 (by decide +kernel) rfl
theorem seX12_finishWith : Cond.selects RX12 yX12_finishWith yX12_finishWith ∈ zU := zU_m 42 (by decide +kernel) rfl
set_option maxHeartbeats 4000000 in
set_option maxRecDepth 100000 in
theorem c_X12_meadow (l : Launch) (E : zE) (G : zG) (r : Nat → Int32) (n na : Nat) (athlete what : Int32) (hM : G 93 = r) (hrn : r 0 = nI n) (hrna : r 1 = nI na) (hn10 : n ≤ 10) (hna : na ≤ 5) : zMi l yX12_meadow wsX12_meadow ({ frames := 7, cells := 0, slots := 0, locals := 165 } : Room) E G [.ref (E.1 92), .int athlete, .int what] (fun r1 G1 => zQm (A_meadow r n na athlete what) G r1 G1) := by
  refine zOf (cc := cX12_meadow) (nL := 6) (ret := (some .int)) RX12 (by decide) rfl rfl (Nat.le_of_ble_eq_true rfl) ?_
  intro p_ e_ s_ m_ a_ b_ me_ c_ ls C0 hP hS hl
  have hx := C0.1
  have hb := C0.2.1
  have hts := C0.2.2.2.2.1
  have hD : zD E (zA E s_.heap.size) := C0.2.2.2.2.2.2.2.2
  have hA : ∀ q : Nat, s_.heap.size ≤ q → zA E s_.heap.size q := fun q h => Or.inr h
  refine z_gen (fun Q_ hQ_ => ?_)
  have hl : lv_has ls 6 [(0, .ref (E.1 92)), (1, .int athlete), (2, .int what)] := hl
  refine lv_aload_n hx hb dX12_meadow_0 rfl (lv_at hl 0 rfl) ?_
  refine lv_iload_n hx hb dX12_meadow_1 rfl (lv_at hl 1 rfl) ?_
  refine z_Vi C0 hP hD hA hS (As := [.int athlete]) (rest := []) (k := 92) (c_X12_isAthlete l E _ na athlete ((congrFun (hM) _).trans (hrna)) (by omega)) (cwV 1 hts (zgV zbw mlRX12_136 imX12_isAthlete seX12_isAthlete iniRX12 coX12_isAthlete) rfl rfl rfl (by decide +kernel) ⟨Nat.le_of_ble_eq_true rfl, Nat.le_of_ble_eq_true rfl⟩) (zk_lt (rfl : zk 92 = 10) (by decide)) (zd_10 E (rfl : zk 92 = 10) _) rfl rfl rfl hl.1 rfl (Nat.le_of_ble_eq_true rfl) dX12_meadow_2 ⟨Nat.zero_le _, Nat.zero_le _⟩ (fun r1 G1 H locs hw1 hP hS => ?_)
  rcases hw1 with ⟨rfl, rfl, ia, hia, rfl⟩ | ⟨rfl, rfl, hno1⟩
  · skip
    have hz_ia := zin_t hia (by omega)
    have hy_ia : zix (nI ia) = ia := zix_n (by omega)
    refine lv_if_ne (tgt := 14) hx hb dX12_meadow_5 (by decide) (fun _ => ?_) (fun h_ => absurd h_ (by decide))
    refine lv_iload_n hx hb dX12_meadow_14 rfl (lv_at hl 2 rfl) ?_
    refine lv_iconst (v := (0 : Int32)) hx hb dX12_meadow_15 (by decide) ?_
    refine lv_iconst (v := (1 : Int32)) hx hb dX12_meadow_16 (by decide) ?_
    refine z_Si C0 hP hD hA hS (As := [.int what, .int (0 : Int32), .int (1 : Int32)]) (rest := []) (c_X12_isIn l E _ what (0 : Int32) (1 : Int32)) (va_cwS 3 hts (zgS zbw mlRX12_62 stX12_isIn iniRX12 coX12_isIn) rfl rfl rfl (by decide +kernel) ⟨Nat.le_of_ble_eq_true rfl, Nat.le_of_ble_eq_true rfl⟩) rfl hl.1 rfl (Nat.le_of_ble_eq_true rfl) dX12_meadow_17 ⟨Nat.zero_le _, Nat.zero_le _⟩ (fun r2 G2 H locs hw2 hP hS => ?_)
    rcases hw2 with ⟨rfl, rfl, hi1_2, hi2_2⟩ | ⟨rfl, rfl, hi0_2⟩
    · skip
      have hi3_2 := Int32.not_lt.mpr hi1_2
      have hi4_2 := Int32.not_lt.mpr hi2_2
      refine lv_if_ne (tgt := 30) hx hb dX12_meadow_20 (by decide) (fun _ => ?_) (fun h_ => absurd h_ (by decide))
      refine lv_aload_n hx hb dX12_meadow_30 rfl (lv_at hl 0 rfl) ?_
      refine lv_aload_n hx hb dX12_meadow_31 rfl (lv_at hl 0 rfl) ?_
      refine z_get C0 hP (C := RX12) (T := TX12) (N := 21) (ci := 10) (index := 9) (k := 92) (ref := "WetSuitPedalsShoesModel") (zk_lt (rfl : zk 92 = 10) (by decide)) (zd_10 E (rfl : zk 92 = 10) _) rfl (zmi inU_12) 0 (by decide) (zm flRX12_9) rfl (v := .ref (E.1 93)) (rfl) dX12_meadow_32 ?_
      refine lv_iload_n hx hb dX12_meadow_35 rfl (lv_at hl 1 rfl) ?_
      refine z_Vi C0 hP hD hA hS (As := [.ref (E.1 93), .int (nI ia)]) (rest := []) (k := 92) (c_X12_finishOf l E _ 93 ia n z_lit_Arr102_93 (by omega) ((congrFun (hM) _).trans (hrn)) (by omega) (by omega)) (cwV 2 hts (zgV zbw mlRX12_156 imX12_finishOf seX12_finishOf iniRX12 coX12_finishOf) rfl rfl rfl (by decide +kernel) ⟨Nat.le_of_ble_eq_true rfl, Nat.le_of_ble_eq_true rfl⟩) (zk_lt (rfl : zk 92 = 10) (by decide)) (zd_10 E (rfl : zk 92 = 10) _) rfl rfl rfl hl.1 rfl (Nat.le_of_ble_eq_true rfl) dX12_meadow_36 ⟨Nat.zero_le _, Nat.zero_le _⟩ (fun r3 G3 H locs hw3 hP hS => ?_)
      obtain ⟨hr3, hF3, hrow3⟩ := hw3
      rw [show G 93 = r from hM] at hr3 hrow3
      subst hr3
      refine lv_istore_n (lv' := [(3, .int (q_fin r n ia)), (0, .ref (E.1 92)), (1, .int (nI ia)), (2, .int what)]) hx hb dX12_meadow_39 rfl hl (by decide) rfl (fun ls hl => ?_)
      refine lv_iconst (v := (0 : Int32)) hx hb dX12_meadow_40 (by decide) ?_
      refine lv_istore (lv' := [(4, .int (0 : Int32)), (3, .int (q_fin r n ia)), (0, .ref (E.1 92)), (1, .int (nI ia)), (2, .int what)]) hx hb dX12_meadow_41 hl (by decide) rfl (fun ls hl => ?_)
      refine lv_iconst (v := (0 : Int32)) hx hb dX12_meadow_43 (by decide) ?_
      refine lv_istore (lv' := [(5, .int (0 : Int32)), (4, .int (0 : Int32)), (3, .int (q_fin r n ia)), (0, .ref (E.1 92)), (1, .int (nI ia)), (2, .int what)]) hx hb dX12_meadow_44 hl (by decide) rfl (fun ls hl => ?_)
      have cut_46 : ∀ (fuel : Nat), ∀ (i : Nat) (sm : Int32) (H : Heap) (locs : List Loc) (ls : Array Slot), (i ≤ n) → (sm = s_chs (fun i => r (2 + 3 * i)) (m_sc r ia (-1)) i) → zP E G3 H → va_S (zA E s_.heap.size) s_.heap H locs → lv_has ls 6 [(0, .ref (E.1 92)), (1, .int (nI ia)), (2, .int what), (3, .int (q_fin r n ia)), (4, .int sm), (5, .int (nI i))] → n - i < fuel → W p_ l e_ ({ frames := 7, cells := 0, slots := 0, locals := 165 } : Room) s_ m_ a_ b_ me_ c_ H locs 0 0 Q_ (F0 m_ 46 ls []) := by
        intro fuel
        induction fuel with
        | zero =>
          intro i  sm  H locs ls hin hs hP hS hl hfu
          exact absurd hfu (Nat.not_lt_zero _)
        | succ fuel ih_46 =>
          intro i  sm  H locs ls hin hs hP hS hl hfu_46
          refine lv_iload hx hb dX12_meadow_46 (lv_at hl 5 rfl) ?_
          refine lv_aload_n hx hb dX12_meadow_48 rfl (lv_at hl 0 rfl) ?_
          refine z_get C0 hP (C := RX12) (T := TX12) (N := 21) (ci := 10) (index := 9) (k := 92) (ref := "WetSuitPedalsShoesModel") (zk_lt (rfl : zk 92 = 10) (by decide)) (zd_10 E (rfl : zk 92 = 10) _) rfl (zmi inU_12) 0 (by decide) (zm flRX12_9) rfl (v := .ref (E.1 93)) (rfl) dX12_meadow_49 ?_
          refine lv_iconst (v := (0 : Int32)) hx hb dX12_meadow_52 (by decide) ?_
          refine z_iald C0 hP (k := 93) (i := 0) (v := (nI n)) (rfl : zk 93 = 11) (Nat.lt_of_lt_of_eq (show 0 < 102 by decide) (rfl : zl 93 = 102).symm) rfl dX12_meadow_53 ((congrFun ((hF3 _ (by decide)).trans (hM)) _).trans (hrn)) ?_
          refine z_N_ge hx hb (a := i) (b := n) (tgt := 95) dX12_meadow_54 rfl rfl (by omega) (by omega) (by decide) (fun c_54 => ?_) (fun c_54 => ?_)
          · skip
            have e9 := (show s_chs (fun i => r (2 + 3 * i)) (m_sc r ia (-1)) n = sm by rw [hs, show i = n by omega])
            refine lv_iload_n hx hb dX12_meadow_95 rfl (lv_at hl 2 rfl) ?_
            refine lv_if_ne (tgt := 102) hx hb dX12_meadow_96 (by decide) (fun c_96 => ?_) (fun c_96 => ?_)
            · skip
              refine lv_iload hx hb dX12_meadow_102 (lv_at hl 4 rfl) ?_
              refine lv_iload_n hx hb dX12_meadow_104 rfl (lv_at hl 3 rfl) ?_
              refine lv_aload_n hx hb dX12_meadow_105 rfl (lv_at hl 0 rfl) ?_
              refine lv_iload_n hx hb dX12_meadow_106 rfl (lv_at hl 1 rfl) ?_
              refine lv_iconst (v := (1 : Int32)) hx hb dX12_meadow_107 (by decide) ?_
              refine lv_iconst (v := (3 : Int32)) hx hb dX12_meadow_108 (by decide) ?_
              refine z_Vi C0 hP hD hA hS (As := [.int (nI ia), .int (1 : Int32), .int (3 : Int32)]) (rest := [.int (q_fin r n ia), .int sm]) (k := 92) (c_X12_finishWith l E _ r n na ia 1 (3 : Int32) ((hF3 _ (by decide)).trans (hM)) hrn hrna hn10 hna (by omega) (by omega)) (cwV 3 hts (zgV zbw mlRX12_170 imX12_finishWith seX12_finishWith iniRX12 coX12_finishWith) rfl rfl rfl (by decide +kernel) ⟨Nat.le_of_ble_eq_true rfl, Nat.le_of_ble_eq_true rfl⟩) (zk_lt (rfl : zk 92 = 10) (by decide)) (zd_10 E (rfl : zk 92 = 10) _) rfl rfl rfl hl.1 rfl (Nat.le_of_ble_eq_true rfl) dX12_meadow_109 ⟨Nat.zero_le _, Nat.zero_le _⟩ (fun r4 G4 H locs hw4 hP hS => ?_)
              obtain ⟨hr4, hF4⟩ := hw4
              subst hr4
              refine lv_isub hx hb dX12_meadow_112 ?_
              refine lv_icmp_le (tgt := 120) hx hb dX12_meadow_113 (by decide) (fun c_113 => ?_) (fun c_113 => ?_)
              · skip
                have d_113 := Int32.not_lt.mpr c_113
                refine lv_iconst (v := (0 : Int32)) hx hb dX12_meadow_120 (by decide) ?_
                subst hQ_
                exact z_iret C0 hP hS (v := (0 : Int32)) (by exact zQm_of (k := 0) (by simp [A_meadow, hz_ia, hy_ia, hi3_2, hi4_2, c_54, e9, c_96, d_113]) (fun k hk => (hF4 k (by omega)).trans (hF3 k (by omega))) ((hF4 _ (by decide)).trans (hF3 _ (by decide)))) dX12_meadow_121
              · skip
                have d_113 := Int32.not_le.mp c_113
                refine lv_iconst (v := (1 : Int32)) hx hb dX12_meadow_116 (by decide) ?_
                refine lv_goto (tgt := 121) hx hb dX12_meadow_117 (by decide) ?_
                subst hQ_
                exact z_iret C0 hP hS (v := (1 : Int32)) (by exact zQm_of (k := 0) (by simp [A_meadow, hz_ia, hy_ia, hi3_2, hi4_2, c_54, e9, c_96, d_113]) (fun k hk => (hF4 k (by omega)).trans (hF3 k (by omega))) ((hF4 _ (by decide)).trans (hF3 _ (by decide)))) dX12_meadow_121
            · skip
              refine lv_iload hx hb dX12_meadow_99 (lv_at hl 4 rfl) ?_
              subst hQ_
              exact z_iret C0 hP hS (v := sm) (by exact zQm_of (k := 0) (by simp [A_meadow, hz_ia, hy_ia, hi3_2, hi4_2, c_54, e9, c_96]) (fun k hk => hF3 k (by omega)) (hF3 _ (by decide))) dX12_meadow_101
          · skip
            refine lv_iload hx hb dX12_meadow_57 (lv_at hl 4 rfl) ?_
            refine lv_aload_n hx hb dX12_meadow_59 rfl (lv_at hl 0 rfl) ?_
            refine z_get C0 hP (C := RX12) (T := TX12) (N := 21) (ci := 10) (index := 9) (k := 92) (ref := "WetSuitPedalsShoesModel") (zk_lt (rfl : zk 92 = 10) (by decide)) (zd_10 E (rfl : zk 92 = 10) _) rfl (zmi inU_12) 0 (by decide) (zm flRX12_9) rfl (v := .ref (E.1 93)) (rfl) dX12_meadow_60 ?_
            refine lv_iload hx hb dX12_meadow_63 (lv_at hl 5 rfl) ?_
            refine lv_iconst (v := (0 : Int32)) hx hb dX12_meadow_65 (by decide) ?_
            refine z_Si C0 hP hD hA hS (As := [.int (nI i), .int (0 : Int32)]) (rest := [.ref (E.1 93), .int sm]) (c_X12_of l E _ i 0) (va_cwS 2 hts (zgS zbw mlRX12_66 stX12_of iniRX12 coX12_of) rfl rfl rfl (by decide +kernel) ⟨Nat.le_of_ble_eq_true rfl, Nat.le_of_ble_eq_true rfl⟩) rfl hl.1 rfl (Nat.le_of_ble_eq_true rfl) dX12_meadow_66 ⟨Nat.zero_le _, Nat.zero_le _⟩ (fun r5 G5 H locs hw5 hP hS => ?_)
            obtain ⟨hr5, rfl⟩ := hw5
            subst hr5
            refine z_eqi (y := (nI (2 + 3 * i))) (congrArg nI (by omega)) ?_
            refine z_iald C0 hP (k := 93) (i := 2 + 3 * i) (v := (r (2 + 3 * i))) (rfl : zk 93 = 11) (Nat.lt_of_lt_of_eq (show 2 + 3 * i < 102 by omega) (rfl : zl 93 = 102).symm) rfl dX12_meadow_69 (congrFun ((hF3 _ (by decide)).trans (hM)) _) ?_
            refine lv_bipush (v := (6 : Int32)) hx hb dX12_meadow_70 (by decide) ?_
            refine lv_icmp_ne (tgt := 85) hx hb dX12_meadow_72 (by decide) (fun c_72 => ?_) (fun c_72 => ?_)
            · skip
              refine lv_iconst (v := (0 : Int32)) hx hb dX12_meadow_85 (by decide) ?_
              refine lv_iadd hx hb dX12_meadow_86 ?_
              refine lv_istore (lv' := [(4, .int (sm + (0 : Int32))), (0, .ref (E.1 92)), (1, .int (nI ia)), (2, .int what), (3, .int (q_fin r n ia)), (5, .int (nI i))]) hx hb dX12_meadow_87 hl (by decide) rfl (fun ls hl => ?_)
              refine lv_iinc (v := (nI (i + 1))) (lv' := [(5, .int (nI (i + 1))), (4, .int (sm + (0 : Int32))), (0, .ref (E.1 92)), (1, .int (nI ia)), (2, .int what), (3, .int (q_fin r n ia))]) hx hb dX12_meadow_89 hl (k := 5) rfl (z_inc (by decide)) (by decide) rfl (fun ls hl => ?_)
              refine lv_goto (tgt := 46) hx hb dX12_meadow_92 (by decide) ?_
              exact ih_46 (i + 1) (sm + (0 : Int32)) _ _ _ (by first | assumption | omega) (by rw [hs, Int32.add_zero]; exact (s_chs_n (kd := fun i => r (2 + 3 * i)) c_72).symm) hP hS (lv_sub hl [2, 3, 4, 5, 1, 0] rfl) (by omega)
            · skip
              refine lv_aload_n hx hb dX12_meadow_75 rfl (lv_at hl 0 rfl) ?_
              refine z_get C0 hP (C := RX12) (T := TX12) (N := 21) (ci := 10) (index := 31) (k := 92) (ref := "WetSuitPedalsShoesModel") (zk_lt (rfl : zk 92 = 10) (by decide)) (zd_10 E (rfl : zk 92 = 10) _) rfl (zmi inU_12) 10 (by decide) (zm flRX12_31) rfl (v := .ref (E.1 100)) (rfl) dX12_meadow_76 ?_
              refine lv_iload hx hb dX12_meadow_79 (lv_at hl 5 rfl) ?_
              refine z_iald C0 hP (k := 100) (i := i) (v := (m_sc r ia (-1) i)) (rfl : zk 100 = 11) (Nat.lt_of_lt_of_eq (show i < 10 by omega) (rfl : zl 100 = 10).symm) rfl dX12_meadow_81 ((hrow3 i (by omega)).1) ?_
              refine lv_goto (tgt := 86) hx hb dX12_meadow_82 (by decide) ?_
              refine lv_iadd hx hb dX12_meadow_86 ?_
              refine lv_istore (lv' := [(4, .int (sm + (m_sc r ia (-1) i))), (0, .ref (E.1 92)), (1, .int (nI ia)), (2, .int what), (3, .int (q_fin r n ia)), (5, .int (nI i))]) hx hb dX12_meadow_87 hl (by decide) rfl (fun ls hl => ?_)
              refine lv_iinc (v := (nI (i + 1))) (lv' := [(5, .int (nI (i + 1))), (4, .int (sm + (m_sc r ia (-1) i))), (0, .ref (E.1 92)), (1, .int (nI ia)), (2, .int what), (3, .int (q_fin r n ia))]) hx hb dX12_meadow_89 hl (k := 5) rfl (z_inc (by decide)) (by decide) rfl (fun ls hl => ?_)
              refine lv_goto (tgt := 46) hx hb dX12_meadow_92 (by decide) ?_
              exact ih_46 (i + 1) (sm + (m_sc r ia (-1) i)) _ _ _ (by first | assumption | omega) (by rw [hs]; exact (s_chs_y (kd := fun i => r (2 + 3 * i)) c_72).symm) hP hS (lv_sub hl [2, 3, 4, 5, 1, 0] rfl) (by omega)
      exact cut_46 (_ + 1) 0 (0 : Int32) _ _ _ (by first | assumption | omega) (by rfl) hP hS (lv_sub hl [3, 4, 5, 2, 1, 0] rfl) (Nat.lt_succ_self _)
    · skip
      have hi5_2 := z_nin hi0_2
      refine lv_if_ne (tgt := 30) hx hb dX12_meadow_20 (by decide) (fun h_ => absurd (by decide) h_) (fun _ => ?_)
      refine lv_aload_n hx hb dX12_meadow_23 rfl (lv_at hl 0 rfl) ?_
      refine lv_bipush (v := (-2 : Int32)) hx hb dX12_meadow_24 (by decide) ?_
      refine z_Vi C0 hP hD hA hS (As := [.int (-2 : Int32)]) (rest := []) (k := 92) (c_X12_no l E _ (-2 : Int32) 2 (by decide) (by decide)) (cwV 1 hts (zgV zbw mlRX12_56 imX12_no seX12_no iniRX12 coX12_no) rfl rfl rfl (by decide +kernel) ⟨Nat.le_of_ble_eq_true rfl, Nat.le_of_ble_eq_true rfl⟩) (zk_lt (rfl : zk 92 = 10) (by decide)) (zd_10 E (rfl : zk 92 = 10) _) rfl rfl rfl hl.1 rfl (Nat.le_of_ble_eq_true rfl) dX12_meadow_26 ⟨Nat.zero_le _, Nat.zero_le _⟩ (fun r6 G6 H locs hw6 hP hS => ?_)
      obtain ⟨rfl, rfl⟩ := hw6
      subst hQ_
      exact z_iret C0 hP hS (v := (-2 : Int32)) (by exact zQm_of (k := 2) (by simp [A_meadow, hz_ia, hy_ia, hi5_2]) (fun k hk => g1_n (by omega)) (g1_s _ _ _)) dX12_meadow_29
  · skip
    have hz_ia := zin_f (by omega) hno1
    refine lv_if_ne (tgt := 14) hx hb dX12_meadow_5 (by decide) (fun h_ => absurd (by decide) h_) (fun _ => ?_)
    refine lv_aload_n hx hb dX12_meadow_8 rfl (lv_at hl 0 rfl) ?_
    refine lv_iconst (v := (-1 : Int32)) hx hb dX12_meadow_9 (by decide) ?_
    refine z_Vi C0 hP hD hA hS (As := [.int (-1 : Int32)]) (rest := []) (k := 92) (c_X12_no l E _ (-1 : Int32) 1 (by decide) (by decide)) (cwV 1 hts (zgV zbw mlRX12_56 imX12_no seX12_no iniRX12 coX12_no) rfl rfl rfl (by decide +kernel) ⟨Nat.le_of_ble_eq_true rfl, Nat.le_of_ble_eq_true rfl⟩) (zk_lt (rfl : zk 92 = 10) (by decide)) (zd_10 E (rfl : zk 92 = 10) _) rfl rfl rfl hl.1 rfl (Nat.le_of_ble_eq_true rfl) dX12_meadow_10 ⟨Nat.zero_le _, Nat.zero_le _⟩ (fun r7 G7 H locs hw7 hP hS => ?_)
    obtain ⟨rfl, rfl⟩ := hw7
    subst hQ_
    exact z_iret C0 hP hS (v := (-1 : Int32)) (by exact zQm_of (k := 1) (by simp [A_meadow, hz_ia]) (fun k hk => g1_n (by omega)) (g1_s _ _ _)) dX12_meadow_13
