/-! laid by wip/whole/vcg.py -/
theorem flRX12_46 : Cond.fieldLink RX12 46 "WetSuitPedalsShoesModel" "fewest" "[I" ∈ zU := zU_m 825 (by decide +kernel) rfl
set_option maxHeartbeats 4000000 in
set_option maxRecDepth 100000 in
theorem c_X12_withTries (l : Launch) (E : zE) (G : zG) (r : Nat → Int32) (n na : Nat) (a i g v : Nat) (hM : G 93 = r) (hrn : r 0 = nI n) (hrna : r 1 = nI na) (hn10 : n ≤ 10) (hna : na ≤ 5) (hVs : zVs r n) (ha : a < na) (hi : i < n) (hg : g < 100) (hv : v < 4) : zMi l yX12_withTries wsX12_withTries ({ frames := 4, cells := 0, slots := 0, locals := 94 } : Room) E G [.ref (E.1 92), .int (nI a), .int (nI i), .int (nI g), .int (nI v)] (fun r1 G1 => s_sec (m_plain r a i) (nI v) (nI g) + G 105 ((i + 1) * 100 + p_leg r i g v) = r1 ∧ G = G1) := by
  refine zOf (cc := cX12_withTries) (nL := 5) (ret := (some .int)) RX12 (by decide) rfl rfl (Nat.le_of_ble_eq_true rfl) ?_
  intro p_ e_ s_ m_ a_ b_ me_ c_ ls C0 hP hS hl
  have hx := C0.1
  have hb := C0.2.1
  have hts := C0.2.2.2.2.1
  have hD : zD E (zA E s_.heap.size) := C0.2.2.2.2.2.2.2.2
  have hA : ∀ q : Nat, s_.heap.size ≤ q → zA E s_.heap.size q := fun q h => Or.inr h
  refine z_gen (fun Q_ hQ_ => ?_)
  have hl : lv_has ls 5 [(0, .ref (E.1 92)), (1, .int (nI a)), (2, .int (nI i)), (3, .int (nI g)), (4, .int (nI v))] := hl
  refine lv_aload_n hx hb dX12_withTries_0 rfl (lv_at hl 0 rfl) ?_
  refine z_get C0 hP (C := RX12) (T := TX12) (N := 21) (ci := 10) (index := 9) (k := 92) (ref := "WetSuitPedalsShoesModel") (zk_lt (rfl : zk 92 = 10) (by decide)) (zd_10 E (rfl : zk 92 = 10) _) rfl (zmi inU_12) 0 (by decide) (zm flRX12_9) rfl (v := .ref (E.1 93)) (rfl) dX12_withTries_1 ?_
  refine lv_iload_n hx hb dX12_withTries_4 rfl (lv_at hl 1 rfl) ?_
  refine lv_iload_n hx hb dX12_withTries_5 rfl (lv_at hl 2 rfl) ?_
  refine lv_iload_n hx hb dX12_withTries_6 rfl (lv_at hl 3 rfl) ?_
  refine lv_iload hx hb dX12_withTries_7 (lv_at hl 4 rfl) ?_
  refine z_Si C0 hP hD hA hS (As := [.ref (E.1 93), .int (nI a), .int (nI i), .int (nI g), .int (nI v)]) (rest := []) (c_X12_secondsBy l E _ 93 a i (nI g) (nI v) z_lit_Arr102_93 (by omega) (by omega)) (va_cwS 5 hts (zgS zbw mlRX12_94 stX12_secondsBy iniRX12 coX12_secondsBy) rfl rfl rfl (by decide +kernel) ⟨Nat.le_of_ble_eq_true rfl, Nat.le_of_ble_eq_true rfl⟩) rfl hl.1 rfl (Nat.le_of_ble_eq_true rfl) dX12_withTries_9 ⟨Nat.zero_le _, Nat.zero_le _⟩ (fun r1 G1 H locs hw1 hP hS => ?_)
  obtain ⟨hr1, rfl⟩ := hw1
  have hr1 : s_sec (m_plain r a i) (nI v) (nI g) = _ := (congrArg (fun z_ : Nat → Int32 => s_sec (m_plain z_ a i) (nI v) (nI g)) (show G 93 = r from hM)).symm.trans hr1
  subst hr1
  refine lv_aload_n hx hb dX12_withTries_12 rfl (lv_at hl 0 rfl) ?_
  refine z_get C0 hP (C := RX12) (T := TX12) (N := 21) (ci := 10) (index := 46) (k := 92) (ref := "WetSuitPedalsShoesModel") (zk_lt (rfl : zk 92 = 10) (by decide)) (zd_10 E (rfl : zk 92 = 10) _) rfl (zmi inU_12) 17 (by decide) (zm flRX12_46) rfl (v := .ref (E.1 105)) (rfl) dX12_withTries_13 ?_
  refine lv_iload_n hx hb dX12_withTries_16 rfl (lv_at hl 2 rfl) ?_
  refine lv_iconst (v := (1 : Int32)) hx hb dX12_withTries_17 (by decide) ?_
  refine z_iadd hx hb (a := i) (b := 1) (n := i + 1) dX12_withTries_18 rfl rfl rfl ?_
  refine lv_bipush (v := (100 : Int32)) hx hb dX12_withTries_19 (by decide) ?_
  refine z_imul hx hb (a := i + 1) (b := 100) (n := (i + 1) * 100) dX12_withTries_21 rfl rfl rfl ?_
  refine lv_aload_n hx hb dX12_withTries_22 rfl (lv_at hl 0 rfl) ?_
  refine z_get C0 hP (C := RX12) (T := TX12) (N := 21) (ci := 10) (index := 9) (k := 92) (ref := "WetSuitPedalsShoesModel") (zk_lt (rfl : zk 92 = 10) (by decide)) (zd_10 E (rfl : zk 92 = 10) _) rfl (zmi inU_12) 0 (by decide) (zm flRX12_9) rfl (v := .ref (E.1 93)) (rfl) dX12_withTries_23 ?_
  refine lv_iload_n hx hb dX12_withTries_26 rfl (lv_at hl 2 rfl) ?_
  refine lv_iload_n hx hb dX12_withTries_27 rfl (lv_at hl 3 rfl) ?_
  refine lv_iload hx hb dX12_withTries_28 (lv_at hl 4 rfl) ?_
  refine z_Si C0 hP hD hA hS (As := [.ref (E.1 93), .int (nI i), .int (nI g), .int (nI v)]) (rest := [.int (nI ((i + 1) * 100)), .ref (E.1 105), .int (s_sec (m_plain r a i) (nI v) (nI g))]) (c_X12_legsBehind l E _ 93 i (nI g) (nI v) z_lit_Arr102_93 (by omega)) (va_cwS 4 hts (zgS zbw mlRX12_98 stX12_legsBehind iniRX12 coX12_legsBehind) rfl rfl rfl (by decide +kernel) ⟨Nat.le_of_ble_eq_true rfl, Nat.le_of_ble_eq_true rfl⟩) rfl hl.1 rfl (Nat.le_of_ble_eq_true rfl) dX12_withTries_30 ⟨Nat.zero_le _, Nat.zero_le _⟩ (fun r2 G2 H locs hw2 hP hS => ?_)
  obtain ⟨hr2, rfl⟩ := hw2
  have hr2 : m_leg (r (2 + 3 * i)) (r (4 + 3 * i)) (nI v) (nI g) = _ := (congrArg (fun z_ : Nat → Int32 => m_leg (z_ (2 + 3 * i)) (z_ (4 + 3 * i)) (nI v) (nI g)) (show G 93 = r from hM)).symm.trans hr2
  have hr2 : nI (p_leg r i g v) = _ := (p_leg_e hVs hi hg hv).1.symm.trans hr2
  have hp8 := (p_leg_e hVs hi hg hv).2
  subst hr2
  refine z_iadd hx hb (a := (i + 1) * 100) (b := p_leg r i g v) (n := ((i + 1) * 100) + (p_leg r i g v)) dX12_withTries_33 rfl rfl rfl ?_
  refine z_iald C0 hP (k := 105) (i := ((i + 1) * 100) + (p_leg r i g v)) (v := (G 105 (((i + 1) * 100) + (p_leg r i g v)))) (rfl : zk 105 = 11) (Nat.lt_of_lt_of_eq (show ((i + 1) * 100) + (p_leg r i g v) < 1100 by omega) (rfl : zl 105 = 1100).symm) rfl dX12_withTries_34 (rfl) ?_
  refine lv_iadd hx hb dX12_withTries_35 ?_
  subst hQ_
  exact z_iret C0 hP hS (v := ((s_sec (m_plain r a i) (nI v) (nI g)) + (G 105 (((i + 1) * 100) + (p_leg r i g v))))) (by exact ⟨rfl, rfl⟩) dX12_withTries_36
theorem mlRX12_159 : Cond.methodLink RX12 159 yX12_withTries ∈ zU := zU_m 1024 (by decide +kernel) rfl
theorem coX12_withTries : Cond.code yX12_withTries cX12_withTries 5 (some .int) ∈ zU := zU_m 1027 (by decide +kernel) rfl
theorem imX12_withTries : Cond.instanceMethod yX12_withTries ∈ zU := zU_m 1026 (by decide +kernel) rfl
theorem seX12_withTries : Cond.selects RX12 yX12_withTries yX12_withTries ∈ zU := zU_m 40 (by decide +kernel) rfl
set_option maxHeartbeats 4000000 in
set_option maxRecDepth 100000 in
theorem c_X12_findsPlans (l : Launch) (E : zE) (G : zG) (r : Nat → Int32) (n na : Nat) (a : Nat) (hM : G 93 = r) (hrn : r 0 = nI n) (hrna : r 1 = nI na) (hn10 : n ≤ 10) (hna : na ≤ 5) (hVs : zVs r n) (hVa : zVa r a) (ha : a < na) : zMv l yX12_findsPlans wsX12_findsPlans ({ frames := 5, cells := 0, slots := 0, locals := 118 } : Room) E G [.ref (E.1 92), .int (nI a)] (fun G1 => (∀ k, (k < 105 ∨ 105 < k) → G1 k = G k) ∧ ∀ j, j ≤ n → ∀ x, x < 100 → G1 105 (j * 100 + x) = p_to r a n (n - j) x) := by
  refine zOf (cc := cX12_findsPlans) (nL := 6) (ret := none) RX12 (by decide) rfl rfl (Nat.le_of_ble_eq_true rfl) ?_
  intro p_ e_ s_ m_ a_ b_ me_ c_ ls C0 hP hS hl
  have hx := C0.1
  have hb := C0.2.1
  have hts := C0.2.2.2.2.1
  have hD : zD E (zA E s_.heap.size) := C0.2.2.2.2.2.2.2.2
  have hA : ∀ q : Nat, s_.heap.size ≤ q → zA E s_.heap.size q := fun q h => Or.inr h
  refine z_gen (fun Q_ hQ_ => ?_)
  have hl : lv_has ls 6 [(0, .ref (E.1 92)), (1, .int (nI a))] := hl
  refine lv_iconst (v := (0 : Int32)) hx hb dX12_findsPlans_0 (by decide) ?_
  refine lv_istore_n (lv' := [(2, .int (0 : Int32)), (0, .ref (E.1 92)), (1, .int (nI a))]) hx hb dX12_findsPlans_1 rfl hl (by decide) rfl (fun ls hl => ?_)
  have cut_2 : ∀ (fuel : Nat), ∀ (g : Nat) (f : Nat → Int32) (H : Heap) (locs : List Loc) (ls : Array Slot), (g ≤ 100) → (∀ x, x < g → f (n * 100 + x) = 0) → zP E (g1 G 105 f) H → va_S (zA E s_.heap.size) s_.heap H locs → lv_has ls 6 [(0, .ref (E.1 92)), (1, .int (nI a)), (2, .int (nI g))] → 100 - g < fuel → W p_ l e_ ({ frames := 5, cells := 0, slots := 0, locals := 118 } : Room) s_ m_ a_ b_ me_ c_ H locs 0 0 Q_ (F0 m_ 2 ls []) := by
    intro fuel
    induction fuel with
    | zero =>
      intro g  f  H locs ls hg hf0 hP hS hl hfu
      exact absurd hfu (Nat.not_lt_zero _)
    | succ fuel ih_2 =>
      intro g  f  H locs ls hg hf0 hP hS hl hfu_2
      refine lv_iload_n hx hb dX12_findsPlans_2 rfl (lv_at hl 2 rfl) ?_
      refine lv_bipush (v := (100 : Int32)) hx hb dX12_findsPlans_3 (by decide) ?_
      refine z_N_ge hx hb (a := g) (b := 100) (tgt := 31) dX12_findsPlans_5 rfl rfl (by omega) (by omega) (by decide) (fun c_5 => ?_) (fun c_5 => ?_)
      · skip
        refine lv_aload_n hx hb dX12_findsPlans_31 rfl (lv_at hl 0 rfl) ?_
        refine z_get C0 hP (C := RX12) (T := TX12) (N := 21) (ci := 10) (index := 9) (k := 92) (ref := "WetSuitPedalsShoesModel") (zk_lt (rfl : zk 92 = 10) (by decide)) (zd_10 E (rfl : zk 92 = 10) _) rfl (zmi inU_12) 0 (by decide) (zm flRX12_9) rfl (v := .ref (E.1 93)) (rfl) dX12_findsPlans_32 ?_
        refine lv_iconst (v := (0 : Int32)) hx hb dX12_findsPlans_35 (by decide) ?_
        refine z_iald C0 hP (k := 93) (i := 0) (v := (nI n)) (rfl : zk 93 = 11) (Nat.lt_of_lt_of_eq (show 0 < 102 by decide) (rfl : zl 93 = 102).symm) rfl dX12_findsPlans_36 ((congrFun ((g1_n (by decide)).trans (hM)) _).trans (hrn)) ?_
        refine lv_iconst (v := (1 : Int32)) hx hb dX12_findsPlans_37 (by decide) ?_
        refine lv_isub hx hb dX12_findsPlans_38 ?_
        refine lv_istore_n (lv' := [(2, .int ((nI n) - (1 : Int32))), (0, .ref (E.1 92)), (1, .int (nI a))]) hx hb dX12_findsPlans_39 rfl hl (by decide) rfl (fun ls hl => ?_)
        have cut_40 : ∀ (fuel : Nat), ∀ (y : Int32) (k : Nat) (f : Nat → Int32) (H : Heap) (locs : List Loc) (ls : Array Slot), (k ≤ n) → (y = nI (n - k) - 1) → (∀ j, n - k ≤ j → j ≤ n → ∀ x, x < 100 → f (j * 100 + x) = p_to r a n (n - j) x) → zP E (g1 G 105 f) H → va_S (zA E s_.heap.size) s_.heap H locs → lv_has ls 6 [(0, .ref (E.1 92)), (1, .int (nI a)), (2, .int y)] → n - k < fuel → W p_ l e_ ({ frames := 5, cells := 0, slots := 0, locals := 118 } : Room) s_ m_ a_ b_ me_ c_ H locs 0 0 Q_ (F0 m_ 40 ls []) := by
          intro fuel
          induction fuel with
          | zero =>
            intro y  k  f  H locs ls hk hy hf hP hS hl hfu
            exact absurd hfu (Nat.not_lt_zero _)
          | succ fuel ih_40 =>
            intro y  k  f  H locs ls hk hy hf hP hS hl hfu_40
            refine lv_iload_n hx hb dX12_findsPlans_40 rfl (lv_at hl 2 rfl) ?_
            refine lv_if_lt (tgt := 112) hx hb dX12_findsPlans_41 (by decide) (fun c_41 => ?_) (fun c_41 => ?_)
            · skip
              have e9 := z_down0 hk hn10 hy c_41
              subst hQ_
              exact z_vret C0 hP hS (by exact ⟨(fun k hk => g1_n (by omega)), fun j h1 x hx => (congrFun (g1_s _ _ _) _).trans (hf j (by omega) h1 x hx)⟩) dX12_findsPlans_112
            · skip
              obtain ⟨i, hi, rfl⟩ := z_down hk hn10 hy c_41
              have hy_i : zix (nI i) = i := zix_n (by omega)
              refine lv_iconst (v := (0 : Int32)) hx hb dX12_findsPlans_44 (by decide) ?_
              refine lv_istore_n (lv' := [(3, .int (0 : Int32)), (0, .ref (E.1 92)), (1, .int (nI a)), (2, .int (nI i))]) hx hb dX12_findsPlans_45 rfl hl (by decide) rfl (fun ls hl => ?_)
              have cut_46 : ∀ (fuel : Nat), ∀ (g : Nat) (f : Nat → Int32) (H : Heap) (locs : List Loc) (ls : Array Slot), (g ≤ 100) → (∀ j, n - k ≤ j → j ≤ n → ∀ x, x < 100 → f (j * 100 + x) = p_to r a n (n - j) x) → (∀ x, x < g → f (i * 100 + x) = p_to r a n (k + 1) x) → zP E (g1 G 105 f) H → va_S (zA E s_.heap.size) s_.heap H locs → lv_has ls 6 [(0, .ref (E.1 92)), (1, .int (nI a)), (2, .int (nI i)), (3, .int (nI g))] → 100 - g < fuel → W p_ l e_ ({ frames := 5, cells := 0, slots := 0, locals := 118 } : Room) s_ m_ a_ b_ me_ c_ H locs 0 0 Q_ (F0 m_ 46 ls []) := by
                intro fuel
                induction fuel with
                | zero =>
                  intro g  f  H locs ls hg hf hf2 hP hS hl hfu
                  exact absurd hfu (Nat.not_lt_zero _)
                | succ fuel ih_46 =>
                  intro g  f  H locs ls hg hf hf2 hP hS hl hfu_46
                  refine lv_iload_n hx hb dX12_findsPlans_46 rfl (lv_at hl 3 rfl) ?_
                  refine lv_bipush (v := (100 : Int32)) hx hb dX12_findsPlans_47 (by decide) ?_
                  refine z_N_ge hx hb (a := g) (b := 100) (tgt := 106) dX12_findsPlans_49 rfl rfl (by omega) (by omega) (by decide) (fun c_49 => ?_) (fun c_49 => ?_)
                  · skip
                    refine lv_iinc (v := ((nI i) + Int32.ofInt (-1))) (lv' := [(2, .int ((nI i) + Int32.ofInt (-1))), (0, .ref (E.1 92)), (1, .int (nI a)), (3, .int (nI g))]) hx hb dX12_findsPlans_106 hl (k := 2) rfl (rfl) (by decide) rfl (fun ls hl => ?_)
                    refine lv_goto (tgt := 40) hx hb dX12_findsPlans_109 (by decide) ?_
                    exact ih_40 ((nI i) + Int32.ofInt (-1)) (k + 1) f _ _ _ (by omega) (by rw [show n - (k + 1) = i by omega]; exact z_dn _) (by intro j h1 h2 x hx; by_cases e9 : j = i; (rw [e9, show n - i = k + 1 by omega]; exact hf2 x (by omega)); exact hf j (by omega) h2 x hx) hP hS (lv_sub hl [1, 2, 0] rfl) (by omega)
                  · skip
                    refine lv_ldc (v := (1000000000 : Int32)) hx hb C0.2.2.2.1 (hts _ (zm kkRX12_55)) dX12_findsPlans_52 ?_
                    refine lv_istore (lv' := [(4, .int (1000000000 : Int32)), (0, .ref (E.1 92)), (1, .int (nI a)), (2, .int (nI i)), (3, .int (nI g))]) hx hb dX12_findsPlans_54 hl (by decide) rfl (fun ls hl => ?_)
                    refine lv_iconst (v := (0 : Int32)) hx hb dX12_findsPlans_56 (by decide) ?_
                    refine lv_istore (lv' := [(5, .int (0 : Int32)), (4, .int (1000000000 : Int32)), (0, .ref (E.1 92)), (1, .int (nI a)), (2, .int (nI i)), (3, .int (nI g))]) hx hb dX12_findsPlans_57 hl (by decide) rfl (fun ls hl => ?_)
                    refine lv_iload hx hb dX12_findsPlans_59 (lv_at hl 0 rfl) ?_
                    refine lv_iconst (v := (4 : Int32)) hx hb dX12_findsPlans_61 (by decide) ?_
                    refine lv_icmp_ge (tgt := 87) hx hb dX12_findsPlans_62 (by decide) (fun h_ => absurd h_ (by decide)) (fun _ => ?_)
                    refine lv_iload hx hb dX12_findsPlans_65 (lv_at hl 1 rfl) ?_
                    refine lv_aload_n hx hb dX12_findsPlans_67 rfl (lv_at hl 2 rfl) ?_
                    refine lv_iload_n hx hb dX12_findsPlans_68 rfl (lv_at hl 3 rfl) ?_
                    refine lv_iload_n hx hb dX12_findsPlans_69 rfl (lv_at hl 4 rfl) ?_
                    refine lv_iload_n hx hb dX12_findsPlans_70 rfl (lv_at hl 5 rfl) ?_
                    refine lv_iload hx hb dX12_findsPlans_71 (lv_at hl 0 rfl) ?_
                    refine z_Vi C0 hP hD hA hS (As := [.int (nI a), .int (nI i), .int (nI g), .int (0 : Int32)]) (rest := [.int (1000000000 : Int32)]) (k := 92) (c_X12_withTries l E _ r n na a i g 0 ((g1_n (by decide)).trans (hM)) hrn hrna hn10 hna hVs (by omega) (by omega) (by omega) (by omega)) (cwV 4 hts (zgV zbw mlRX12_159 imX12_withTries seX12_withTries iniRX12 coX12_withTries) rfl rfl rfl (by decide +kernel) ⟨Nat.le_of_ble_eq_true rfl, Nat.le_of_ble_eq_true rfl⟩) (zk_lt (rfl : zk 92 = 10) (by decide)) (zd_10 E (rfl : zk 92 = 10) _) rfl rfl rfl hl.1 rfl (Nat.le_of_ble_eq_true rfl) dX12_findsPlans_73 ⟨Nat.zero_le _, Nat.zero_le _⟩ (fun r1 G1 H locs hw1 hP hS => ?_)
                    obtain ⟨hr1, rfl⟩ := hw1
                    have hr1 : p_with r a i (p_to r a n k) g 0 = _ := (p_with_f hVs (by omega) (by omega) (by decide) hf).trans ((congrArg (fun z_ : Nat → Int32 => _ + z_ _) (show f = (g1 G 105 f) 105 from (g1_s _ _ _).symm)).trans hr1)
                    subst hr1
                    refine z_Si C0 hP hD hA hS (As := [.int (1000000000 : Int32), .int (p_with r a i (p_to r a n k) g 0)]) (rest := []) (c_X12_least l E _ (1000000000 : Int32) (p_with r a i (p_to r a n k) g 0)) (va_cwS 2 hts (zgS zbw mlRX12_88 stX12_least iniRX12 coX12_least) rfl rfl rfl (by decide +kernel) ⟨Nat.le_of_ble_eq_true rfl, Nat.le_of_ble_eq_true rfl⟩) rfl hl.1 rfl (Nat.le_of_ble_eq_true rfl) dX12_findsPlans_76 ⟨Nat.zero_le _, Nat.zero_le _⟩ (fun r2 G2 H locs hw2 hP hS => ?_)
                    obtain ⟨rfl, rfl⟩ := hw2
                    refine lv_istore (lv' := [(4, .int (s_min (1000000000 : Int32) (p_with r a i (p_to r a n k) g 0))), (5, .int (0 : Int32)), (0, .ref (E.1 92)), (1, .int (nI a)), (2, .int (nI i)), (3, .int (nI g))]) hx hb dX12_findsPlans_79 hl (by decide) rfl (fun ls hl => ?_)
                    refine lv_iinc (v := (1 : Int32)) (lv' := [(5, .int (1 : Int32)), (4, .int (s_min (1000000000 : Int32) (p_with r a i (p_to r a n k) g 0))), (0, .ref (E.1 92)), (1, .int (nI a)), (2, .int (nI i)), (3, .int (nI g))]) hx hb dX12_findsPlans_81 hl (k := 1) rfl (by decide) (by decide) rfl (fun ls hl => ?_)
                    refine lv_goto (tgt := 59) hx hb dX12_findsPlans_84 (by decide) ?_
                    refine lv_iload hx hb dX12_findsPlans_59 (lv_at hl 0 rfl) ?_
                    refine lv_iconst (v := (4 : Int32)) hx hb dX12_findsPlans_61 (by decide) ?_
                    refine lv_icmp_ge (tgt := 87) hx hb dX12_findsPlans_62 (by decide) (fun h_ => absurd h_ (by decide)) (fun _ => ?_)
                    refine lv_iload hx hb dX12_findsPlans_65 (lv_at hl 1 rfl) ?_
                    refine lv_aload_n hx hb dX12_findsPlans_67 rfl (lv_at hl 2 rfl) ?_
                    refine lv_iload_n hx hb dX12_findsPlans_68 rfl (lv_at hl 3 rfl) ?_
                    refine lv_iload_n hx hb dX12_findsPlans_69 rfl (lv_at hl 4 rfl) ?_
                    refine lv_iload_n hx hb dX12_findsPlans_70 rfl (lv_at hl 5 rfl) ?_
                    refine lv_iload hx hb dX12_findsPlans_71 (lv_at hl 0 rfl) ?_
                    refine z_Vi C0 hP hD hA hS (As := [.int (nI a), .int (nI i), .int (nI g), .int (1 : Int32)]) (rest := [.int (s_min (1000000000 : Int32) (p_with r a i (p_to r a n k) g 0))]) (k := 92) (c_X12_withTries l E _ r n na a i g 1 ((g1_n (by decide)).trans (hM)) hrn hrna hn10 hna hVs (by omega) (by omega) (by omega) (by omega)) (cwV 4 hts (zgV zbw mlRX12_159 imX12_withTries seX12_withTries iniRX12 coX12_withTries) rfl rfl rfl (by decide +kernel) ⟨Nat.le_of_ble_eq_true rfl, Nat.le_of_ble_eq_true rfl⟩) (zk_lt (rfl : zk 92 = 10) (by decide)) (zd_10 E (rfl : zk 92 = 10) _) rfl rfl rfl hl.1 rfl (Nat.le_of_ble_eq_true rfl) dX12_findsPlans_73 ⟨Nat.zero_le _, Nat.zero_le _⟩ (fun r3 G3 H locs hw3 hP hS => ?_)
                    obtain ⟨hr3, rfl⟩ := hw3
                    have hr3 : p_with r a i (p_to r a n k) g 1 = _ := (p_with_f hVs (by omega) (by omega) (by decide) hf).trans ((congrArg (fun z_ : Nat → Int32 => _ + z_ _) (show f = (g1 G 105 f) 105 from (g1_s _ _ _).symm)).trans hr3)
                    subst hr3
                    refine z_Si C0 hP hD hA hS (As := [.int (s_min (1000000000 : Int32) (p_with r a i (p_to r a n k) g 0)), .int (p_with r a i (p_to r a n k) g 1)]) (rest := []) (c_X12_least l E _ (s_min (1000000000 : Int32) (p_with r a i (p_to r a n k) g 0)) (p_with r a i (p_to r a n k) g 1)) (va_cwS 2 hts (zgS zbw mlRX12_88 stX12_least iniRX12 coX12_least) rfl rfl rfl (by decide +kernel) ⟨Nat.le_of_ble_eq_true rfl, Nat.le_of_ble_eq_true rfl⟩) rfl hl.1 rfl (Nat.le_of_ble_eq_true rfl) dX12_findsPlans_76 ⟨Nat.zero_le _, Nat.zero_le _⟩ (fun r4 G4 H locs hw4 hP hS => ?_)
                    obtain ⟨rfl, rfl⟩ := hw4
                    refine lv_istore (lv' := [(4, .int (s_min (s_min (1000000000 : Int32) (p_with r a i (p_to r a n k) g 0)) (p_with r a i (p_to r a n k) g 1))), (5, .int (1 : Int32)), (0, .ref (E.1 92)), (1, .int (nI a)), (2, .int (nI i)), (3, .int (nI g))]) hx hb dX12_findsPlans_79 hl (by decide) rfl (fun ls hl => ?_)
                    refine lv_iinc (v := (2 : Int32)) (lv' := [(5, .int (2 : Int32)), (4, .int (s_min (s_min (1000000000 : Int32) (p_with r a i (p_to r a n k) g 0)) (p_with r a i (p_to r a n k) g 1))), (0, .ref (E.1 92)), (1, .int (nI a)), (2, .int (nI i)), (3, .int (nI g))]) hx hb dX12_findsPlans_81 hl (k := 1) rfl (by decide) (by decide) rfl (fun ls hl => ?_)
                    refine lv_goto (tgt := 59) hx hb dX12_findsPlans_84 (by decide) ?_
                    refine lv_iload hx hb dX12_findsPlans_59 (lv_at hl 0 rfl) ?_
                    refine lv_iconst (v := (4 : Int32)) hx hb dX12_findsPlans_61 (by decide) ?_
                    refine lv_icmp_ge (tgt := 87) hx hb dX12_findsPlans_62 (by decide) (fun h_ => absurd h_ (by decide)) (fun _ => ?_)
                    refine lv_iload hx hb dX12_findsPlans_65 (lv_at hl 1 rfl) ?_
                    refine lv_aload_n hx hb dX12_findsPlans_67 rfl (lv_at hl 2 rfl) ?_
                    refine lv_iload_n hx hb dX12_findsPlans_68 rfl (lv_at hl 3 rfl) ?_
                    refine lv_iload_n hx hb dX12_findsPlans_69 rfl (lv_at hl 4 rfl) ?_
                    refine lv_iload_n hx hb dX12_findsPlans_70 rfl (lv_at hl 5 rfl) ?_
                    refine lv_iload hx hb dX12_findsPlans_71 (lv_at hl 0 rfl) ?_
                    refine z_Vi C0 hP hD hA hS (As := [.int (nI a), .int (nI i), .int (nI g), .int (2 : Int32)]) (rest := [.int (s_min (s_min (1000000000 : Int32) (p_with r a i (p_to r a n k) g 0)) (p_with r a i (p_to r a n k) g 1))]) (k := 92) (c_X12_withTries l E _ r n na a i g 2 ((g1_n (by decide)).trans (hM)) hrn hrna hn10 hna hVs (by omega) (by omega) (by omega) (by omega)) (cwV 4 hts (zgV zbw mlRX12_159 imX12_withTries seX12_withTries iniRX12 coX12_withTries) rfl rfl rfl (by decide +kernel) ⟨Nat.le_of_ble_eq_true rfl, Nat.le_of_ble_eq_true rfl⟩) (zk_lt (rfl : zk 92 = 10) (by decide)) (zd_10 E (rfl : zk 92 = 10) _) rfl rfl rfl hl.1 rfl (Nat.le_of_ble_eq_true rfl) dX12_findsPlans_73 ⟨Nat.zero_le _, Nat.zero_le _⟩ (fun r5 G5 H locs hw5 hP hS => ?_)
                    obtain ⟨hr5, rfl⟩ := hw5
                    have hr5 : p_with r a i (p_to r a n k) g 2 = _ := (p_with_f hVs (by omega) (by omega) (by decide) hf).trans ((congrArg (fun z_ : Nat → Int32 => _ + z_ _) (show f = (g1 G 105 f) 105 from (g1_s _ _ _).symm)).trans hr5)
                    subst hr5
                    refine z_Si C0 hP hD hA hS (As := [.int (s_min (s_min (1000000000 : Int32) (p_with r a i (p_to r a n k) g 0)) (p_with r a i (p_to r a n k) g 1)), .int (p_with r a i (p_to r a n k) g 2)]) (rest := []) (c_X12_least l E _ (s_min (s_min (1000000000 : Int32) (p_with r a i (p_to r a n k) g 0)) (p_with r a i (p_to r a n k) g 1)) (p_with r a i (p_to r a n k) g 2)) (va_cwS 2 hts (zgS zbw mlRX12_88 stX12_least iniRX12 coX12_least) rfl rfl rfl (by decide +kernel) ⟨Nat.le_of_ble_eq_true rfl, Nat.le_of_ble_eq_true rfl⟩) rfl hl.1 rfl (Nat.le_of_ble_eq_true rfl) dX12_findsPlans_76 ⟨Nat.zero_le _, Nat.zero_le _⟩ (fun r6 G6 H locs hw6 hP hS => ?_)
                    obtain ⟨rfl, rfl⟩ := hw6
                    refine lv_istore (lv' := [(4, .int (s_min (s_min (s_min (1000000000 : Int32) (p_with r a i (p_to r a n k) g 0)) (p_with r a i (p_to r a n k) g 1)) (p_with r a i (p_to r a n k) g 2))), (5, .int (2 : Int32)), (0, .ref (E.1 92)), (1, .int (nI a)), (2, .int (nI i)), (3, .int (nI g))]) hx hb dX12_findsPlans_79 hl (by decide) rfl (fun ls hl => ?_)
                    refine lv_iinc (v := (3 : Int32)) (lv' := [(5, .int (3 : Int32)), (4, .int (s_min (s_min (s_min (1000000000 : Int32) (p_with r a i (p_to r a n k) g 0)) (p_with r a i (p_to r a n k) g 1)) (p_with r a i (p_to r a n k) g 2))), (0, .ref (E.1 92)), (1, .int (nI a)), (2, .int (nI i)), (3, .int (nI g))]) hx hb dX12_findsPlans_81 hl (k := 1) rfl (by decide) (by decide) rfl (fun ls hl => ?_)
                    refine lv_goto (tgt := 59) hx hb dX12_findsPlans_84 (by decide) ?_
                    refine lv_iload hx hb dX12_findsPlans_59 (lv_at hl 0 rfl) ?_
                    refine lv_iconst (v := (4 : Int32)) hx hb dX12_findsPlans_61 (by decide) ?_
                    refine lv_icmp_ge (tgt := 87) hx hb dX12_findsPlans_62 (by decide) (fun h_ => absurd h_ (by decide)) (fun _ => ?_)
                    refine lv_iload hx hb dX12_findsPlans_65 (lv_at hl 1 rfl) ?_
                    refine lv_aload_n hx hb dX12_findsPlans_67 rfl (lv_at hl 2 rfl) ?_
                    refine lv_iload_n hx hb dX12_findsPlans_68 rfl (lv_at hl 3 rfl) ?_
                    refine lv_iload_n hx hb dX12_findsPlans_69 rfl (lv_at hl 4 rfl) ?_
                    refine lv_iload_n hx hb dX12_findsPlans_70 rfl (lv_at hl 5 rfl) ?_
                    refine lv_iload hx hb dX12_findsPlans_71 (lv_at hl 0 rfl) ?_
                    refine z_Vi C0 hP hD hA hS (As := [.int (nI a), .int (nI i), .int (nI g), .int (3 : Int32)]) (rest := [.int (s_min (s_min (s_min (1000000000 : Int32) (p_with r a i (p_to r a n k) g 0)) (p_with r a i (p_to r a n k) g 1)) (p_with r a i (p_to r a n k) g 2))]) (k := 92) (c_X12_withTries l E _ r n na a i g 3 ((g1_n (by decide)).trans (hM)) hrn hrna hn10 hna hVs (by omega) (by omega) (by omega) (by omega)) (cwV 4 hts (zgV zbw mlRX12_159 imX12_withTries seX12_withTries iniRX12 coX12_withTries) rfl rfl rfl (by decide +kernel) ⟨Nat.le_of_ble_eq_true rfl, Nat.le_of_ble_eq_true rfl⟩) (zk_lt (rfl : zk 92 = 10) (by decide)) (zd_10 E (rfl : zk 92 = 10) _) rfl rfl rfl hl.1 rfl (Nat.le_of_ble_eq_true rfl) dX12_findsPlans_73 ⟨Nat.zero_le _, Nat.zero_le _⟩ (fun r7 G7 H locs hw7 hP hS => ?_)
                    obtain ⟨hr7, rfl⟩ := hw7
                    have hr7 : p_with r a i (p_to r a n k) g 3 = _ := (p_with_f hVs (by omega) (by omega) (by decide) hf).trans ((congrArg (fun z_ : Nat → Int32 => _ + z_ _) (show f = (g1 G 105 f) 105 from (g1_s _ _ _).symm)).trans hr7)
                    subst hr7
                    refine z_Si C0 hP hD hA hS (As := [.int (s_min (s_min (s_min (1000000000 : Int32) (p_with r a i (p_to r a n k) g 0)) (p_with r a i (p_to r a n k) g 1)) (p_with r a i (p_to r a n k) g 2)), .int (p_with r a i (p_to r a n k) g 3)]) (rest := []) (c_X12_least l E _ (s_min (s_min (s_min (1000000000 : Int32) (p_with r a i (p_to r a n k) g 0)) (p_with r a i (p_to r a n k) g 1)) (p_with r a i (p_to r a n k) g 2)) (p_with r a i (p_to r a n k) g 3)) (va_cwS 2 hts (zgS zbw mlRX12_88 stX12_least iniRX12 coX12_least) rfl rfl rfl (by decide +kernel) ⟨Nat.le_of_ble_eq_true rfl, Nat.le_of_ble_eq_true rfl⟩) rfl hl.1 rfl (Nat.le_of_ble_eq_true rfl) dX12_findsPlans_76 ⟨Nat.zero_le _, Nat.zero_le _⟩ (fun r8 G8 H locs hw8 hP hS => ?_)
                    obtain ⟨rfl, rfl⟩ := hw8
                    refine lv_istore (lv' := [(4, .int (s_min (s_min (s_min (s_min (1000000000 : Int32) (p_with r a i (p_to r a n k) g 0)) (p_with r a i (p_to r a n k) g 1)) (p_with r a i (p_to r a n k) g 2)) (p_with r a i (p_to r a n k) g 3))), (5, .int (3 : Int32)), (0, .ref (E.1 92)), (1, .int (nI a)), (2, .int (nI i)), (3, .int (nI g))]) hx hb dX12_findsPlans_79 hl (by decide) rfl (fun ls hl => ?_)
                    refine lv_iinc (v := (4 : Int32)) (lv' := [(5, .int (4 : Int32)), (4, .int (s_min (s_min (s_min (s_min (1000000000 : Int32) (p_with r a i (p_to r a n k) g 0)) (p_with r a i (p_to r a n k) g 1)) (p_with r a i (p_to r a n k) g 2)) (p_with r a i (p_to r a n k) g 3))), (0, .ref (E.1 92)), (1, .int (nI a)), (2, .int (nI i)), (3, .int (nI g))]) hx hb dX12_findsPlans_81 hl (k := 1) rfl (by decide) (by decide) rfl (fun ls hl => ?_)
                    refine lv_goto (tgt := 59) hx hb dX12_findsPlans_84 (by decide) ?_
                    refine lv_iload hx hb dX12_findsPlans_59 (lv_at hl 0 rfl) ?_
                    refine lv_iconst (v := (4 : Int32)) hx hb dX12_findsPlans_61 (by decide) ?_
                    refine lv_icmp_ge (tgt := 87) hx hb dX12_findsPlans_62 (by decide) (fun _ => ?_) (fun h_ => absurd (by decide) h_)
                    refine lv_aload_n hx hb dX12_findsPlans_87 rfl (lv_at hl 2 rfl) ?_
                    refine z_get C0 hP (C := RX12) (T := TX12) (N := 21) (ci := 10) (index := 46) (k := 92) (ref := "WetSuitPedalsShoesModel") (zk_lt (rfl : zk 92 = 10) (by decide)) (zd_10 E (rfl : zk 92 = 10) _) rfl (zmi inU_12) 17 (by decide) (zm flRX12_46) rfl (v := .ref (E.1 105)) (rfl) dX12_findsPlans_88 ?_
                    refine lv_iload_n hx hb dX12_findsPlans_91 rfl (lv_at hl 4 rfl) ?_
                    refine lv_bipush (v := (100 : Int32)) hx hb dX12_findsPlans_92 (by decide) ?_
                    refine z_imul hx hb (a := i) (b := 100) (n := i * 100) dX12_findsPlans_94 rfl rfl rfl ?_
                    refine lv_iload_n hx hb dX12_findsPlans_95 rfl (lv_at hl 5 rfl) ?_
                    refine z_iadd hx hb (a := i * 100) (b := g) (n := (i * 100) + g) dX12_findsPlans_96 rfl rfl rfl ?_
                    refine lv_iload hx hb dX12_findsPlans_97 (lv_at hl 1 rfl) ?_
                    refine z_iast C0 hP hD hS (k := 105) (i := (i * 100) + g) (v := (s_min (s_min (s_min (s_min (1000000000 : Int32) (p_with r a i (p_to r a n k) g 0)) (p_with r a i (p_to r a n k) g 1)) (p_with r a i (p_to r a n k) g 2)) (p_with r a i (p_to r a n k) g 3))) (F := f) (g1_s _ _ _) (rfl : zk 105 = 11) (Nat.lt_of_lt_of_eq (show (i * 100) + g < 1100 by omega) (rfl : zl 105 = 1100).symm) rfl dX12_findsPlans_99 (fun H locs hP hS => ?_)
                    have hP := zP_eq (g1_t _ _ _ _ : _ = (g1 G 105 (upd f ((i * 100) + g) (s_min (s_min (s_min (s_min (1000000000 : Int32) (p_with r a i (p_to r a n k) g 0)) (p_with r a i (p_to r a n k) g 1)) (p_with r a i (p_to r a n k) g 2)) (p_with r a i (p_to r a n k) g 3))))) hP
                    refine lv_iinc (v := (nI (g + 1))) (lv' := [(3, .int (nI (g + 1))), (5, .int (4 : Int32)), (4, .int (s_min (s_min (s_min (s_min (1000000000 : Int32) (p_with r a i (p_to r a n k) g 0)) (p_with r a i (p_to r a n k) g 1)) (p_with r a i (p_to r a n k) g 2)) (p_with r a i (p_to r a n k) g 3))), (0, .ref (E.1 92)), (1, .int (nI a)), (2, .int (nI i))]) hx hb dX12_findsPlans_100 hl (k := 5) rfl (z_inc (by decide)) (by decide) rfl (fun ls hl => ?_)
                    refine lv_goto (tgt := 46) hx hb dX12_findsPlans_103 (by decide) ?_
                    exact ih_46 (g + 1) (upd f ((i * 100) + g) (s_min (s_min (s_min (s_min (1000000000 : Int32) (p_with r a i (p_to r a n k) g 0)) (p_with r a i (p_to r a n k) g 1)) (p_with r a i (p_to r a n k) g 2)) (p_with r a i (p_to r a n k) g 3))) _ _ _ (by first | assumption | omega) (by intro j h1 h2 x hx; rw [pk_un (by omega)]; exact hf j h1 h2 x hx) (by intro x hx; by_cases e9 : x = g; (subst e9; exact pk_us.trans (p_to_st hVs hVa hn10 (by omega) (by omega))); (rw [pk_un (by omega)]; exact hf2 x (by omega))) hP hS (lv_sub hl [3, 4, 5, 0] rfl) (by omega)
              exact cut_46 (_ + 1) 0 f _ _ _ (by first | assumption | omega) (by exact hf) (by exact fun x hx => absurd hx (Nat.not_lt_zero x)) hP hS (lv_sub hl [1, 2, 3, 0] rfl) (Nat.lt_succ_self _)
        exact cut_40 (_ + 1) ((nI n) - (1 : Int32)) 0 f _ _ _ (by omega) (by rfl) (by intro j h1 h2 x hx; have e9 : j = n := (by omega); rw [e9, Nat.sub_self]; exact hf0 x (by omega)) hP hS (lv_sub hl [1, 2, 0] rfl) (Nat.lt_succ_self _)
      · skip
        refine lv_aload_n hx hb dX12_findsPlans_8 rfl (lv_at hl 0 rfl) ?_
        refine z_get C0 hP (C := RX12) (T := TX12) (N := 21) (ci := 10) (index := 46) (k := 92) (ref := "WetSuitPedalsShoesModel") (zk_lt (rfl : zk 92 = 10) (by decide)) (zd_10 E (rfl : zk 92 = 10) _) rfl (zmi inU_12) 17 (by decide) (zm flRX12_46) rfl (v := .ref (E.1 105)) (rfl) dX12_findsPlans_9 ?_
        refine lv_aload_n hx hb dX12_findsPlans_12 rfl (lv_at hl 0 rfl) ?_
        refine z_get C0 hP (C := RX12) (T := TX12) (N := 21) (ci := 10) (index := 9) (k := 92) (ref := "WetSuitPedalsShoesModel") (zk_lt (rfl : zk 92 = 10) (by decide)) (zd_10 E (rfl : zk 92 = 10) _) rfl (zmi inU_12) 0 (by decide) (zm flRX12_9) rfl (v := .ref (E.1 93)) (rfl) dX12_findsPlans_13 ?_
        refine lv_iconst (v := (0 : Int32)) hx hb dX12_findsPlans_16 (by decide) ?_
        refine z_iald C0 hP (k := 93) (i := 0) (v := (nI n)) (rfl : zk 93 = 11) (Nat.lt_of_lt_of_eq (show 0 < 102 by decide) (rfl : zl 93 = 102).symm) rfl dX12_findsPlans_17 ((congrFun ((g1_n (by decide)).trans (hM)) _).trans (hrn)) ?_
        refine lv_bipush (v := (100 : Int32)) hx hb dX12_findsPlans_18 (by decide) ?_
        refine z_imul hx hb (a := n) (b := 100) (n := n * 100) dX12_findsPlans_20 rfl rfl rfl ?_
        refine lv_iload_n hx hb dX12_findsPlans_21 rfl (lv_at hl 2 rfl) ?_
        refine z_iadd hx hb (a := n * 100) (b := g) (n := (n * 100) + g) dX12_findsPlans_22 rfl rfl rfl ?_
        refine lv_iconst (v := (0 : Int32)) hx hb dX12_findsPlans_23 (by decide) ?_
        refine z_iast C0 hP hD hS (k := 105) (i := (n * 100) + g) (v := (0 : Int32)) (F := f) (g1_s _ _ _) (rfl : zk 105 = 11) (Nat.lt_of_lt_of_eq (show (n * 100) + g < 1100 by omega) (rfl : zl 105 = 1100).symm) rfl dX12_findsPlans_24 (fun H locs hP hS => ?_)
        have hP := zP_eq (g1_t _ _ _ _ : _ = (g1 G 105 (upd f ((n * 100) + g) (0 : Int32)))) hP
        refine lv_iinc (v := (nI (g + 1))) (lv' := [(2, .int (nI (g + 1))), (0, .ref (E.1 92)), (1, .int (nI a))]) hx hb dX12_findsPlans_25 hl (k := 2) rfl (z_inc (by decide)) (by decide) rfl (fun ls hl => ?_)
        refine lv_goto (tgt := 2) hx hb dX12_findsPlans_28 (by decide) ?_
        exact ih_2 (g + 1) (upd f ((n * 100) + g) (0 : Int32)) _ _ _ (by first | assumption | omega) (by intro x hx; by_cases e9 : x = g; (subst e9; exact pk_us); (rw [pk_un (by omega)]; exact hf0 x (by omega))) hP hS (lv_sub hl [1, 2, 0] rfl) (by omega)
  exact cut_2 (_ + 1) 0 (G 105) _ _ _ (by first | assumption | omega) (by exact fun x hx => absurd hx (Nat.not_lt_zero x)) (zP_eq ((g1_e G 105).symm) hP) hS (lv_sub hl [1, 2, 0] rfl) (Nat.lt_succ_self _)
