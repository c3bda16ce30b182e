/-! laid by wip/whole/vcg.py -/
set_option maxHeartbeats 4000000 in
set_option maxRecDepth 100000 in
theorem c_X12_isInM (l : Launch) (E : zE) (G : zG)  : zMi l yX12_isIn wsX12_isIn ({ frames := 0, cells := 0, slots := 0, locals := 0 } : Room) E G [.int (-1 : Int32), .int (48 : Int32), .int (57 : Int32)] (fun r1 G1 => 0 = r1 ∧ G = G1) := by
  refine zOf (cc := cX12_isIn) (nL := 3) (ret := (some .boolean)) RX12 (by decide) rfl rfl (Nat.le_of_ble_eq_true rfl) ?_
  intro p_ e_ s_ m_ a_ b_ me_ c_ ls C0 hP hS hl
  have hx := C0.1
  have hb := C0.2.1
  have hts := C0.2.2.2.2.1
  have hD : zD E (zA E s_.heap.size) := C0.2.2.2.2.2.2.2.2
  have hA : ∀ q : Nat, s_.heap.size ≤ q → zA E s_.heap.size q := fun q h => Or.inr h
  refine z_gen (fun Q_ hQ_ => ?_)
  have hl : lv_has ls 3 [(0, .int (-1 : Int32)), (1, .int (48 : Int32)), (2, .int (57 : Int32))] := hl
  refine lv_iload_n hx hb dX12_isIn_0 rfl (lv_at hl 0 rfl) ?_
  refine lv_iload_n hx hb dX12_isIn_1 rfl (lv_at hl 1 rfl) ?_
  refine lv_icmp_lt (tgt := 14) hx hb dX12_isIn_2 (by decide) (fun _ => ?_) (fun h_ => absurd (by decide) h_)
  refine lv_iconst (v := (0 : Int32)) hx hb dX12_isIn_14 (by decide) ?_
  subst hQ_
  exact z_zret C0 hP hS (v := (0 : Int32)) (by decide) (by exact ⟨rfl, rfl⟩) dX12_isIn_15
theorem flRX12_109 : Cond.fieldLink RX12 109 "WetSuitPedalsShoesModel" "place" "I" ∈ zU := zU_m 821 (by decide +kernel) rfl
theorem flRX12_22 : Cond.fieldLink RX12 22 "WetSuitPedalsShoesModel" "letters" "[I" ∈ zU := zU_m 813 (by decide +kernel) rfl
set_option maxHeartbeats 4000000 in
set_option maxRecDepth 100000 in
theorem c_X12_here (l : Launch) (E : zE) (G : zG) (L : Nat → Int32) (K p m : Nat) (hL : G 97 = L) (hK : G 92 8 = nI K) (hpp : G 92 13 = nI p) (hmm : G 92 15 = nI m) (hK96 : K ≤ 96) (hpK : p ≤ K)  : zMi l yX12_here wsX12_here ({ frames := 0, cells := 0, slots := 0, locals := 0 } : Room) E G [.ref (E.1 92)] (fun r1 G1 => (p < K ∧ L p = r1 ∧ G = G1) ∨ (K ≤ p ∧ -1 = r1 ∧ G = G1)) := by
  refine zOf (cc := cX12_here) (nL := 1) (ret := (some .int)) RX12 (by decide) rfl rfl (Nat.le_of_ble_eq_true rfl) ?_
  intro p_ e_ s_ m_ a_ b_ me_ c_ ls C0 hP hS hl
  have hx := C0.1
  have hb := C0.2.1
  have hts := C0.2.2.2.2.1
  have hD : zD E (zA E s_.heap.size) := C0.2.2.2.2.2.2.2.2
  have hA : ∀ q : Nat, s_.heap.size ≤ q → zA E s_.heap.size q := fun q h => Or.inr h
  refine z_gen (fun Q_ hQ_ => ?_)
  have hl : lv_has ls 1 [(0, .ref (E.1 92))] := hl
  refine lv_aload_n hx hb dX12_here_0 rfl (lv_at hl 0 rfl) ?_
  refine z_get C0 hP (C := RX12) (T := TX12) (N := 21) (ci := 10) (index := 109) (k := 92) (ref := "WetSuitPedalsShoesModel") (zk_lt (rfl : zk 92 = 10) (by decide)) (zd_10 E (rfl : zk 92 = 10) _) rfl (zmi inU_12) 13 (by decide) (zm flRX12_109) rfl (v := .int (nI p)) (congrArg (fun z => some (Value.int z)) (hpp)) dX12_here_1 ?_
  refine lv_aload_n hx hb dX12_here_4 rfl (lv_at hl 0 rfl) ?_
  refine z_get C0 hP (C := RX12) (T := TX12) (N := 21) (ci := 10) (index := 105) (k := 92) (ref := "WetSuitPedalsShoesModel") (zk_lt (rfl : zk 92 = 10) (by decide)) (zd_10 E (rfl : zk 92 = 10) _) rfl (zmi inU_12) 8 (by decide) (zm flRX12_105) rfl (v := .int (nI K)) (congrArg (fun z => some (Value.int z)) (hK)) dX12_here_5 ?_
  refine z_N_ge hx hb (a := p) (b := K) (tgt := 23) dX12_here_8 rfl rfl (by omega) (by omega) (by decide) (fun c_8 => ?_) (fun c_8 => ?_)
  · skip
    refine lv_iconst (v := (-1 : Int32)) hx hb dX12_here_23 (by decide) ?_
    subst hQ_
    exact z_iret C0 hP hS (v := (-1 : Int32)) (by exact Or.inr ⟨by omega, rfl, rfl⟩) dX12_here_24
  · skip
    refine lv_aload_n hx hb dX12_here_11 rfl (lv_at hl 0 rfl) ?_
    refine z_get C0 hP (C := RX12) (T := TX12) (N := 21) (ci := 10) (index := 22) (k := 92) (ref := "WetSuitPedalsShoesModel") (zk_lt (rfl : zk 92 = 10) (by decide)) (zd_10 E (rfl : zk 92 = 10) _) rfl (zmi inU_12) 5 (by decide) (zm flRX12_22) rfl (v := .ref (E.1 97)) (rfl) dX12_here_12 ?_
    refine lv_aload_n hx hb dX12_here_15 rfl (lv_at hl 0 rfl) ?_
    refine z_get C0 hP (C := RX12) (T := TX12) (N := 21) (ci := 10) (index := 109) (k := 92) (ref := "WetSuitPedalsShoesModel") (zk_lt (rfl : zk 92 = 10) (by decide)) (zd_10 E (rfl : zk 92 = 10) _) rfl (zmi inU_12) 13 (by decide) (zm flRX12_109) rfl (v := .int (nI p)) (congrArg (fun z => some (Value.int z)) (hpp)) dX12_here_16 ?_
    refine z_iald C0 hP (k := 97) (i := p) (v := (L p)) (rfl : zk 97 = 11) (Nat.lt_of_lt_of_eq (show p < 96 by omega) (rfl : zl 97 = 96).symm) rfl dX12_here_19 (congrFun (hL) _) ?_
    refine lv_goto (tgt := 24) hx hb dX12_here_20 (by decide) ?_
    subst hQ_
    exact z_iret C0 hP hS (v := (L p)) (by exact Or.inl ⟨by omega, rfl, rfl⟩) dX12_here_24
theorem mlRX12_112 : Cond.methodLink RX12 112 yX12_here ∈ zU := zU_m 888 (by decide +kernel) rfl
theorem coX12_here : Cond.code yX12_here cX12_here 1 (some .int) ∈ zU := zU_m 891 (by decide +kernel) rfl
theorem imX12_here : Cond.instanceMethod yX12_here ∈ zU := zU_m 890 (by decide +kernel) rfl
theorem seX12_here : Cond.selects RX12 yX12_here yX12_here ∈ zU := zU_m 28 (by decide +kernel) rfl
theorem flRX12_40 : Cond.fieldLink RX12 40 "WetSuitPedalsShoesModel" "numbers" "[I" ∈ zU := zU_m 822 (by decide +kernel) rfl
theorem flRX12_116 : Cond.fieldLink RX12 116 "WetSuitPedalsShoesModel" "numbersMany" "I" ∈ zU := zU_m 823 (by decide +kernel) rfl
set_option maxHeartbeats 4000000 in
set_option maxRecDepth 100000 in
theorem c_X12_readsDigit (l : Launch) (E : zE) (G : zG) (L : Nat → Int32) (K p m : Nat) (hL : G 97 = L) (hK : G 92 8 = nI K) (hpp : G 92 13 = nI p) (hmm : G 92 15 = nI m) (hK96 : K ≤ 96) (hpK : p ≤ K) (hm12 : m < 12) : zMi l yX12_readsDigit wsX12_readsDigit ({ frames := 1, cells := 0, slots := 0, locals := 22 } : Room) E G [.ref (E.1 92)] (fun r1 G1 => (1 = r1 ∧ p < K ∧ c_dig (L p) = true ∧ (∀ k, (k < 92 ∨ (92 < k ∧ k < 103) ∨ 103 < k) → G1 k = G k) ∧ (∀ x, x ≠ 13 → x ≠ 15 → G1 92 x = G 92 x) ∧ G1 92 13 = nI (p + 1) ∧ G1 92 15 = nI (m + 1) ∧ G1 103 = upd (G 103) m (nI (dn L p))) ∨ (0 = r1 ∧ G = G1 ∧ ¬ (p < K ∧ c_dig (L p) = true))) := by
  refine zOf (cc := cX12_readsDigit) (nL := 1) (ret := (some .boolean)) RX12 (by decide) rfl rfl (Nat.le_of_ble_eq_true rfl) ?_
  intro p_ e_ s_ m_ a_ b_ me_ c_ ls C0 hP hS hl
  have hx := C0.1
  have hb := C0.2.1
  have hts := C0.2.2.2.2.1
  have hD : zD E (zA E s_.heap.size) := C0.2.2.2.2.2.2.2.2
  have hA : ∀ q : Nat, s_.heap.size ≤ q → zA E s_.heap.size q := fun q h => Or.inr h
  refine z_gen (fun Q_ hQ_ => ?_)
  have hl : lv_has ls 1 [(0, .ref (E.1 92))] := hl
  refine lv_aload_n hx hb dX12_readsDigit_0 rfl (lv_at hl 0 rfl) ?_
  refine z_Vi C0 hP hD hA hS (As := []) (rest := []) (k := 92) (c_X12_here l E _ L K p m (hL) (hK) (hpp) (hmm) hK96 (by omega)) (cwV 0 hts (zgV zbw mlRX12_112 imX12_here seX12_here iniRX12 coX12_here) rfl rfl rfl (by decide +kernel) ⟨Nat.le_of_ble_eq_true rfl, Nat.le_of_ble_eq_true rfl⟩) (zk_lt (rfl : zk 92 = 10) (by decide)) (zd_10 E (rfl : zk 92 = 10) _) rfl rfl rfl hl.1 rfl (Nat.le_of_ble_eq_true rfl) dX12_readsDigit_1 ⟨Nat.zero_le _, Nat.zero_le _⟩ (fun r1 G1 H locs hw1 hP hS => ?_)
  rcases hw1 with ⟨hpk1, rfl, rfl⟩ | ⟨hpk1, rfl, rfl⟩
  · skip
    refine lv_bipush (v := (48 : Int32)) hx hb dX12_readsDigit_4 (by decide) ?_
    refine lv_bipush (v := (57 : Int32)) hx hb dX12_readsDigit_6 (by decide) ?_
    refine z_Si C0 hP hD hA hS (As := [.int (L p), .int (48 : Int32), .int (57 : Int32)]) (rest := []) (c_X12_isIn l E _ (L p) (48 : Int32) (57 : Int32)) (va_cwS 3 hts (zgS zbw mlRX12_62 stX12_isIn iniRX12 coX12_isIn) rfl rfl rfl (by decide +kernel) ⟨Nat.le_of_ble_eq_true rfl, Nat.le_of_ble_eq_true rfl⟩) rfl hl.1 rfl (Nat.le_of_ble_eq_true rfl) dX12_readsDigit_8 ⟨Nat.zero_le _, Nat.zero_le _⟩ (fun r2 G2 H locs hw2 hP hS => ?_)
    rcases hw2 with ⟨rfl, rfl, hi1_2, hi2_2⟩ | ⟨rfl, rfl, hi0_2⟩
    · skip
      have hi3_2 := Int32.not_lt.mpr hi1_2
      have hi4_2 := Int32.not_lt.mpr hi2_2
      have hx1 := hi1_2
      have hx2 := hi2_2
      refine lv_if_ne (tgt := 16) hx hb dX12_readsDigit_11 (by decide) (fun _ => ?_) (fun h_ => absurd h_ (by decide))
      refine lv_aload_n hx hb dX12_readsDigit_16 rfl (lv_at hl 0 rfl) ?_
      refine z_get C0 hP (C := RX12) (T := TX12) (N := 21) (ci := 10) (index := 40) (k := 92) (ref := "WetSuitPedalsShoesModel") (zk_lt (rfl : zk 92 = 10) (by decide)) (zd_10 E (rfl : zk 92 = 10) _) rfl (zmi inU_12) 14 (by decide) (zm flRX12_40) rfl (v := .ref (E.1 103)) (rfl) dX12_readsDigit_17 ?_
      refine lv_aload_n hx hb dX12_readsDigit_20 rfl (lv_at hl 0 rfl) ?_
      refine z_get C0 hP (C := RX12) (T := TX12) (N := 21) (ci := 10) (index := 116) (k := 92) (ref := "WetSuitPedalsShoesModel") (zk_lt (rfl : zk 92 = 10) (by decide)) (zd_10 E (rfl : zk 92 = 10) _) rfl (zmi inU_12) 15 (by decide) (zm flRX12_116) rfl (v := .int (nI m)) (congrArg (fun z => some (Value.int z)) (hmm)) dX12_readsDigit_21 ?_
      refine lv_aload_n hx hb dX12_readsDigit_24 rfl (lv_at hl 0 rfl) ?_
      refine z_Vi C0 hP hD hA hS (As := []) (rest := [.int (nI m), .ref (E.1 103)]) (k := 92) (c_X12_here l E _ L K p m (hL) (hK) (hpp) (hmm) hK96 (by omega)) (cwV 0 hts (zgV zbw mlRX12_112 imX12_here seX12_here iniRX12 coX12_here) rfl rfl rfl (by decide +kernel) ⟨Nat.le_of_ble_eq_true rfl, Nat.le_of_ble_eq_true rfl⟩) (zk_lt (rfl : zk 92 = 10) (by decide)) (zd_10 E (rfl : zk 92 = 10) _) rfl rfl rfl hl.1 rfl (Nat.le_of_ble_eq_true rfl) dX12_readsDigit_25 ⟨Nat.zero_le _, Nat.zero_le _⟩ (fun r3 G3 H locs hw3 hP hS => ?_)
      rcases hw3 with ⟨hpk3, rfl, rfl⟩ | ⟨hpk3, rfl, rfl⟩
      · skip
        refine lv_bipush (v := (48 : Int32)) hx hb dX12_readsDigit_28 (by decide) ?_
        refine lv_isub hx hb dX12_readsDigit_30 ?_
        refine z_eqi (y := (nI (dn L p))) ((dn_e (decide_eq_true ⟨hx1, hx2⟩)).1) ?_
        refine z_iast C0 hP hD hS (k := 103) (i := m) (v := (nI (dn L p))) (F := G 103) (rfl) (rfl : zk 103 = 11) (Nat.lt_of_lt_of_eq (show m < 12 by omega) (rfl : zl 103 = 12).symm) rfl dX12_readsDigit_31 (fun H locs hP hS => ?_)
        refine lv_aload_n hx hb dX12_readsDigit_32 rfl (lv_at hl 0 rfl) ?_
        refine lv_dup hx hb dX12_readsDigit_33 rfl ?_
        refine z_get C0 hP (C := RX12) (T := TX12) (N := 21) (ci := 10) (index := 116) (k := 92) (ref := "WetSuitPedalsShoesModel") (zk_lt (rfl : zk 92 = 10) (by decide)) (zd_10 E (rfl : zk 92 = 10) _) rfl (zmi inU_12) 15 (by decide) (zm flRX12_116) rfl (v := .int (nI m)) (congrArg (fun z => some (Value.int z)) ((congrFun (g1_n (by decide)) _).trans (hmm))) dX12_readsDigit_34 ?_
        refine lv_iconst (v := (1 : Int32)) hx hb dX12_readsDigit_37 (by decide) ?_
        refine z_iadd hx hb (a := m) (b := 1) (n := m + 1) dX12_readsDigit_38 rfl rfl rfl ?_
        refine z_put C0 hP hD hS (C := RX12) (T := TX12) (N := 21) (ci := 10) (index := 116) (k := 92) (ref := "WetSuitPedalsShoesModel") (F := G 92) (ty := .int) (g1_n (by decide)) tyX12 tyX12_ok nmX12 (zk_lt (rfl : zk 92 = 10) (by decide)) (zd_10 E (rfl : zk 92 = 10) _) rfl (zmi inU_12) 15 (by decide) (zm flRX12_116) rfl rfl (by decide +kernel) (by rfl) rfl (by show 15 < 21; decide) (upd (G 92) 15 (nI (m + 1))) ((zd_10 E (rfl : zk 92 = 10) _).trans (rfl)) dX12_readsDigit_39 (fun H locs hP hS => ?_)
        refine lv_aload_n hx hb dX12_readsDigit_42 rfl (lv_at hl 0 rfl) ?_
        refine lv_dup hx hb dX12_readsDigit_43 rfl ?_
        refine z_get C0 hP (C := RX12) (T := TX12) (N := 21) (ci := 10) (index := 109) (k := 92) (ref := "WetSuitPedalsShoesModel") (zk_lt (rfl : zk 92 = 10) (by decide)) (zd_10 E (rfl : zk 92 = 10) _) rfl (zmi inU_12) 13 (by decide) (zm flRX12_109) rfl (v := .int (nI p)) (congrArg (fun z => some (Value.int z)) ((congrFun (g1_s _ _ _) _).trans ((pk_un (by decide)).trans (hpp)))) dX12_readsDigit_44 ?_
        refine lv_iconst (v := (1 : Int32)) hx hb dX12_readsDigit_47 (by decide) ?_
        refine z_iadd hx hb (a := p) (b := 1) (n := p + 1) dX12_readsDigit_48 rfl rfl rfl ?_
        refine z_put C0 hP hD hS (C := RX12) (T := TX12) (N := 21) (ci := 10) (index := 109) (k := 92) (ref := "WetSuitPedalsShoesModel") (F := (upd (G 92) 15 (nI (m + 1)))) (ty := .int) (g1_s _ _ _) tyX12 tyX12_ok nmX12 (zk_lt (rfl : zk 92 = 10) (by decide)) (zd_10 E (rfl : zk 92 = 10) _) rfl (zmi inU_12) 13 (by decide) (zm flRX12_109) rfl rfl (by decide +kernel) (by rfl) rfl (by show 13 < 21; decide) (upd (upd (G 92) 15 (nI (m + 1))) 13 (nI (p + 1))) ((zd_10 E (rfl : zk 92 = 10) _).trans (rfl)) dX12_readsDigit_49 (fun H locs hP hS => ?_)
        have hP := zP_eq (g1_t _ _ _ _ : _ = (g1 (g1 G 103 (upd (G 103) m (nI (dn L p)))) 92 (upd (upd (G 92) 15 (nI (m + 1))) 13 (nI (p + 1))))) hP
        refine lv_iconst (v := (1 : Int32)) hx hb dX12_readsDigit_52 (by decide) ?_
        subst hQ_
        exact z_zret C0 hP hS (v := (1 : Int32)) (by decide) (by exact Or.inl ⟨rfl, by omega, decide_eq_true ⟨hx1, hx2⟩, (fun k hk => (g1_n (by omega)).trans (g1_n (by omega))), (fun x a b => (congrFun (g1_s _ _ _) x).trans ((pk_un a).trans (pk_un b))), (congrFun (g1_s _ _ _) _).trans (pk_us), (congrFun (g1_s _ _ _) _).trans ((pk_un (by decide)).trans (pk_us)), (g1_n (by decide)).trans (g1_s _ _ _)⟩) dX12_readsDigit_53
      · skip
        exact absurd hpk3 (by omega)
    · skip
      have hi5_2 := z_nin hi0_2
      have hx0 := hi0_2
      refine lv_if_ne (tgt := 16) hx hb dX12_readsDigit_11 (by decide) (fun h_ => absurd (by decide) h_) (fun _ => ?_)
      refine lv_iconst (v := (0 : Int32)) hx hb dX12_readsDigit_14 (by decide) ?_
      subst hQ_
      exact z_zret C0 hP hS (v := (0 : Int32)) (by decide) (by exact Or.inr ⟨rfl, rfl, fun q => by first | exact hx0 (of_decide_eq_true q.2) | exact absurd q.1 (by omega)⟩) dX12_readsDigit_15
  · skip
    refine lv_bipush (v := (48 : Int32)) hx hb dX12_readsDigit_4 (by decide) ?_
    refine lv_bipush (v := (57 : Int32)) hx hb dX12_readsDigit_6 (by decide) ?_
    refine z_Si C0 hP hD hA hS (As := [.int (-1 : Int32), .int (48 : Int32), .int (57 : Int32)]) (rest := []) (c_X12_isInM l E _ ) (va_cwS 3 hts (zgS zbw mlRX12_62 stX12_isIn iniRX12 coX12_isIn) rfl rfl rfl (by decide +kernel) ⟨Nat.le_of_ble_eq_true rfl, Nat.le_of_ble_eq_true rfl⟩) rfl hl.1 rfl (Nat.le_of_ble_eq_true rfl) dX12_readsDigit_8 ⟨Nat.zero_le _, Nat.zero_le _⟩ (fun r4 G4 H locs hw4 hP hS => ?_)
    obtain ⟨rfl, rfl⟩ := hw4
    refine lv_if_ne (tgt := 16) hx hb dX12_readsDigit_11 (by decide) (fun h_ => absurd (by decide) h_) (fun _ => ?_)
    refine lv_iconst (v := (0 : Int32)) hx hb dX12_readsDigit_14 (by decide) ?_
    subst hQ_
    exact z_zret C0 hP hS (v := (0 : Int32)) (by decide) (by exact Or.inr ⟨rfl, rfl, fun q => by first | exact hx0 (of_decide_eq_true q.2) | exact absurd q.1 (by omega)⟩) dX12_readsDigit_15
theorem mlRX12_119 : Cond.methodLink RX12 119 yX12_readsDigit ∈ zU := zU_m 903 (by decide +kernel) rfl
theorem coX12_readsDigit : Cond.code yX12_readsDigit cX12_readsDigit 1 (some .boolean) ∈ zU := zU_m 906 (by decide +kernel) rfl
theorem imX12_readsDigit : Cond.instanceMethod yX12_readsDigit ∈ zU := zU_m 905 (by decide +kernel) rfl
theorem seX12_readsDigit : Cond.selects RX12 yX12_readsDigit yX12_readsDigit ∈ zU := zU_m 31 (by decide +kernel) rfl
set_option maxHeartbeats 4000000 in
set_option maxRecDepth 100000 in
theorem c_X12_readsDigits (l : Launch) (E : zE) (G : zG) (L : Nat → Int32) (K p m : Nat) (hL : G 97 = L) (hK : G 92 8 = nI K) (hpp : G 92 13 = nI p) (hmm : G 92 15 = nI m) (hK96 : K ≤ 96) (hpK : p ≤ K) (kk : Nat) (hkk : m + kk ≤ 12) : zMi l yX12_readsDigits wsX12_readsDigits ({ frames := 2, cells := 0, slots := 0, locals := 42 } : Room) E G [.ref (E.1 92), .int (nI kk)] (fun r1 G1 => (1 = r1 ∧ RDg G G1 L K p m kk) ∨ (0 = r1 ∧ ∃ j, j < kk ∧ RDg G G1 L K p m j ∧ ¬ (p + j < K ∧ c_dig (L (p + j)) = true))) := by
  refine zOf (cc := cX12_readsDigits) (nL := 4) (ret := (some .boolean)) RX12 (by decide) rfl rfl (Nat.le_of_ble_eq_true rfl) ?_
  intro p_ e_ s_ m_ a_ b_ me_ c_ ls C0 hP hS hl
  have hx := C0.1
  have hb := C0.2.1
  have hts := C0.2.2.2.2.1
  have hD : zD E (zA E s_.heap.size) := C0.2.2.2.2.2.2.2.2
  have hA : ∀ q : Nat, s_.heap.size ≤ q → zA E s_.heap.size q := fun q h => Or.inr h
  refine z_gen (fun Q_ hQ_ => ?_)
  have hl : lv_has ls 4 [(0, .ref (E.1 92)), (1, .int (nI kk))] := hl
  refine lv_iconst (v := (1 : Int32)) hx hb dX12_readsDigits_0 (by decide) ?_
  refine lv_istore_n (lv' := [(2, .int (1 : Int32)), (0, .ref (E.1 92)), (1, .int (nI kk))]) hx hb dX12_readsDigits_1 rfl hl (by decide) rfl (fun ls hl => ?_)
  refine lv_iconst (v := (0 : Int32)) hx hb dX12_readsDigits_2 (by decide) ?_
  refine lv_istore_n (lv' := [(3, .int (0 : Int32)), (2, .int (1 : Int32)), (0, .ref (E.1 92)), (1, .int (nI kk))]) hx hb dX12_readsDigits_3 rfl hl (by decide) rfl (fun ls hl => ?_)
  have cut_4 : ∀ (fuel : Nat), ∀ (i is : Nat) (Gc : zG) (H : Heap) (locs : List Loc) (ls : Array Slot), (i ≤ kk) → (∀ k, (k < 92 ∨ (92 < k ∧ k < 103) ∨ 103 < k) → Gc k = G k) → ((is = 1 ∧ i ≤ kk ∧ RDg G Gc L K p m i) ∨ (is = 0 ∧ ∃ j, j < kk ∧ RDg G Gc L K p m j ∧ ¬ (p + j < K ∧ c_dig (L (p + j)) = true))) → zP E Gc H → va_S (zA E s_.heap.size) s_.heap H locs → lv_has ls 4 [(0, .ref (E.1 92)), (1, .int (nI kk)), (2, .int (nI is)), (3, .int (nI i))] → kk - i < fuel → W p_ l e_ ({ frames := 2, cells := 0, slots := 0, locals := 42 } : Room) s_ m_ a_ b_ me_ c_ H locs 0 0 Q_ (F0 m_ 4 ls []) := by
    intro fuel
    induction fuel with
    | zero =>
      intro i is  Gc  H locs ls hik hFc hI hP hS hl hfu
      exact absurd hfu (Nat.not_lt_zero _)
    | succ fuel ih_4 =>
      intro i is  Gc  H locs ls hik hFc hI hP hS hl hfu_4
      refine lv_iload_n hx hb dX12_readsDigits_4 rfl (lv_at hl 3 rfl) ?_
      refine lv_iload_n hx hb dX12_readsDigits_5 rfl (lv_at hl 1 rfl) ?_
      refine z_N_ge hx hb (a := i) (b := kk) (tgt := 24) dX12_readsDigits_6 rfl rfl (by omega) (by omega) (by decide) (fun c_6 => ?_) (fun c_6 => ?_)
      · skip
        refine lv_iload_n hx hb dX12_readsDigits_24 rfl (lv_at hl 2 rfl) ?_
        subst hQ_
        exact z_zret C0 hP hS (v := (nI is)) (z_b01 (by rcases hI with q | q <;> omega)) (by rcases hI with ⟨q1, q2, q3⟩ | ⟨q1, q2⟩; (first | (exfalso; omega) | (subst q1; exact Or.inl ⟨rfl, by rw [show kk = i by omega]; exact q3⟩)); (first | (exfalso; omega) | (subst q1; exact Or.inr ⟨rfl, q2⟩))) dX12_readsDigits_25
      · skip
        refine lv_iload_n hx hb dX12_readsDigits_9 rfl (lv_at hl 2 rfl) ?_
        refine z_0_eq hx hb (a := is) (tgt := 24) dX12_readsDigits_10 rfl (by (rcases hI with q | q <;> omega)) (by decide) (fun c_10 => ?_) (fun c_10 => ?_)
        · skip
          refine lv_iload_n hx hb dX12_readsDigits_24 rfl (lv_at hl 2 rfl) ?_
          subst hQ_
          exact z_zret C0 hP hS (v := (nI is)) (z_b01 (by rcases hI with q | q <;> omega)) (by rcases hI with ⟨q1, q2, q3⟩ | ⟨q1, q2⟩; (first | (exfalso; omega) | (subst q1; exact Or.inl ⟨rfl, by rw [show kk = i by omega]; exact q3⟩)); (first | (exfalso; omega) | (subst q1; exact Or.inr ⟨rfl, q2⟩))) dX12_readsDigits_25
        · skip
          obtain ⟨hi1, hi9, hR9⟩ := hI.resolve_right (fun q => by omega)
          have hle9 := RDg_le hR9 hpK
          refine lv_aload_n hx hb dX12_readsDigits_13 rfl (lv_at hl 0 rfl) ?_
          refine z_Vi C0 hP hD hA hS (As := []) (rest := []) (k := 92) (c_X12_readsDigit l E _ L K (p + i) (m + i) ((hFc _ (by decide)).trans (hL)) (((hR9.2.2.2.1 8 (by decide) (by decide)).trans hK)) (hR9.2.2.2.2.1) (hR9.2.2.2.2.2) hK96 (by omega) (by omega)) (cwV 0 hts (zgV zbw mlRX12_119 imX12_readsDigit seX12_readsDigit iniRX12 coX12_readsDigit) rfl rfl rfl (by decide +kernel) ⟨Nat.le_of_ble_eq_true rfl, Nat.le_of_ble_eq_true rfl⟩) (zk_lt (rfl : zk 92 = 10) (by decide)) (zd_10 E (rfl : zk 92 = 10) _) rfl rfl rfl hl.1 rfl (Nat.le_of_ble_eq_true rfl) dX12_readsDigits_14 ⟨Nat.zero_le _, Nat.zero_le _⟩ (fun r1 G1 H locs hw1 hP hS => ?_)
          rcases hw1 with ⟨rfl, hpk1, hdg1, hF1, hr91, h131, h151, hnm1⟩ | ⟨rfl, rfl, hnd9⟩
          · skip
            refine lv_istore_n (lv' := [(2, .int (1 : Int32)), (0, .ref (E.1 92)), (1, .int (nI kk)), (3, .int (nI i))]) hx hb dX12_readsDigits_17 rfl hl (by decide) rfl (fun ls hl => ?_)
            refine lv_iinc (v := (nI (i + 1))) (lv' := [(3, .int (nI (i + 1))), (2, .int (1 : Int32)), (0, .ref (E.1 92)), (1, .int (nI kk))]) hx hb dX12_readsDigits_18 hl (k := 3) rfl (z_inc (by decide)) (by decide) rfl (fun ls hl => ?_)
            refine lv_goto (tgt := 4) hx hb dX12_readsDigits_21 (by decide) ?_
            exact ih_4 (i + 1) 1 G1 _ _ _ (by first | assumption | omega) (by exact fun k hk => (hF1 k (by omega)).trans (hFc k (by omega))) (by exact Or.inl ⟨rfl, by omega, RDg_st hR9 hpk1 hdg1 hF1 hr91 h131 h151 hnm1⟩) hP hS (lv_sub hl [2, 3, 1, 0] rfl) (by omega)
          · skip
            refine lv_istore_n (lv' := [(2, .int (0 : Int32)), (0, .ref (E.1 92)), (1, .int (nI kk)), (3, .int (nI i))]) hx hb dX12_readsDigits_17 rfl hl (by decide) rfl (fun ls hl => ?_)
            refine lv_iinc (v := (nI (i + 1))) (lv' := [(3, .int (nI (i + 1))), (2, .int (0 : Int32)), (0, .ref (E.1 92)), (1, .int (nI kk))]) hx hb dX12_readsDigits_18 hl (k := 3) rfl (z_inc (by decide)) (by decide) rfl (fun ls hl => ?_)
            refine lv_goto (tgt := 4) hx hb dX12_readsDigits_21 (by decide) ?_
            exact ih_4 (i + 1) 0 Gc _ _ _ (by first | assumption | omega) (by exact fun k hk => hFc k (by omega)) (by exact Or.inr ⟨rfl, i, by omega, hR9, hnd9⟩) hP hS (lv_sub hl [2, 3, 1, 0] rfl) (by omega)
  exact cut_4 (_ + 1) 0 1 G _ _ _ (by first | assumption | omega) (by exact fun k hk => rfl) (by exact Or.inl ⟨rfl, Nat.zero_le _, RDg_0 hpp hmm⟩) hP hS (lv_sub hl [2, 3, 1, 0] rfl) (Nat.lt_succ_self _)
set_option maxHeartbeats 4000000 in
set_option maxRecDepth 100000 in
theorem c_X12_kindBy (l : Launch) (E : zE) (G : zG) (ch : Int32) : zMi l yX12_kindBy wsX12_kindBy ({ frames := 0, cells := 0, slots := 0, locals := 0 } : Room) E G [.int ch] (fun r G1 => c_kind ch = r ∧ G = G1) := by
  refine zOf (cc := cX12_kindBy) (nL := 1) (ret := (some .int)) RX12 (by decide) rfl rfl (Nat.le_of_ble_eq_true rfl) ?_
  intro p_ e_ s_ m_ a_ b_ me_ c_ ls C0 hP hS hl
  have hx := C0.1
  have hb := C0.2.1
  have hts := C0.2.2.2.2.1
  have hD : zD E (zA E s_.heap.size) := C0.2.2.2.2.2.2.2.2
  have hA : ∀ q : Nat, s_.heap.size ≤ q → zA E s_.heap.size q := fun q h => Or.inr h
  refine z_gen (fun Q_ hQ_ => ?_)
  have hl : lv_has ls 1 [(0, .int ch)] := hl
  refine lv_iload_n hx hb dX12_kindBy_0 rfl (lv_at hl 0 rfl) ?_
  rcases z_sw (ch) 99 21 with hsw | ⟨k_, hk_, hsw⟩
  · skip
    refine lv_tableOut (tgt := 115) hx hb dX12_kindBy_1 (z_swo hsw rfl rfl) (by decide) ?_
    have hsn_1_0 : ¬ ch = (99 : Int32) := fun q => by rw [q] at hsw; revert hsw; decide
    have hsn_1_1 : ¬ ch = (100 : Int32) := fun q => by rw [q] at hsw; revert hsw; decide
    have hsn_1_2 : ¬ ch = (101 : Int32) := fun q => by rw [q] at hsw; revert hsw; decide
    have hsn_1_3 : ¬ ch = (102 : Int32) := fun q => by rw [q] at hsw; revert hsw; decide
    have hsn_1_4 : ¬ ch = (103 : Int32) := fun q => by rw [q] at hsw; revert hsw; decide
    have hsn_1_5 : ¬ ch = (104 : Int32) := fun q => by rw [q] at hsw; revert hsw; decide
    have hsn_1_6 : ¬ ch = (105 : Int32) := fun q => by rw [q] at hsw; revert hsw; decide
    have hsn_1_7 : ¬ ch = (106 : Int32) := fun q => by rw [q] at hsw; revert hsw; decide
    have hsn_1_8 : ¬ ch = (107 : Int32) := fun q => by rw [q] at hsw; revert hsw; decide
    have hsn_1_9 : ¬ ch = (108 : Int32) := fun q => by rw [q] at hsw; revert hsw; decide
    have hsn_1_10 : ¬ ch = (109 : Int32) := fun q => by rw [q] at hsw; revert hsw; decide
    have hsn_1_11 : ¬ ch = (110 : Int32) := fun q => by rw [q] at hsw; revert hsw; decide
    have hsn_1_12 : ¬ ch = (111 : Int32) := fun q => by rw [q] at hsw; revert hsw; decide
    have hsn_1_13 : ¬ ch = (112 : Int32) := fun q => by rw [q] at hsw; revert hsw; decide
    have hsn_1_14 : ¬ ch = (113 : Int32) := fun q => by rw [q] at hsw; revert hsw; decide
    have hsn_1_15 : ¬ ch = (114 : Int32) := fun q => by rw [q] at hsw; revert hsw; decide
    have hsn_1_16 : ¬ ch = (115 : Int32) := fun q => by rw [q] at hsw; revert hsw; decide
    have hsn_1_17 : ¬ ch = (116 : Int32) := fun q => by rw [q] at hsw; revert hsw; decide
    have hsn_1_18 : ¬ ch = (117 : Int32) := fun q => by rw [q] at hsw; revert hsw; decide
    have hsn_1_19 : ¬ ch = (118 : Int32) := fun q => by rw [q] at hsw; revert hsw; decide
    have hsn_1_20 : ¬ ch = (119 : Int32) := fun q => by rw [q] at hsw; revert hsw; decide
    refine lv_bipush (v := (-9 : Int32)) hx hb dX12_kindBy_115 (by decide) ?_
    subst hQ_
    exact z_iret C0 hP hS (v := (-9 : Int32)) (by refine ⟨?_, rfl⟩; simp [c_kind, hsn_1_0, hsn_1_1, hsn_1_2, hsn_1_3, hsn_1_4, hsn_1_5, hsn_1_6, hsn_1_7, hsn_1_8, hsn_1_9, hsn_1_10, hsn_1_11, hsn_1_12, hsn_1_13, hsn_1_14, hsn_1_15, hsn_1_16, hsn_1_17, hsn_1_18, hsn_1_19, hsn_1_20]) dX12_kindBy_117
  · skip
    rcases (show k_ = 0 ∨ k_ = 1 ∨ k_ = 2 ∨ k_ = 3 ∨ k_ = 4 ∨ k_ = 5 ∨ k_ = 6 ∨ k_ = 7 ∨ k_ = 8 ∨ k_ = 9 ∨ k_ = 10 ∨ k_ = 11 ∨ k_ = 12 ∨ k_ = 13 ∨ k_ = 14 ∨ k_ = 15 ∨ k_ = 16 ∨ k_ = 17 ∨ k_ = 18 ∨ k_ = 19 ∨ k_ = 20 by omega) with rfl | rfl | rfl | rfl | rfl | rfl | rfl | rfl | rfl | rfl | rfl | rfl | rfl | rfl | rfl | rfl | rfl | rfl | rfl | rfl | rfl
    · skip
      have hsw_1 : ch = (99 : Int32) := z_swi hsw (by decide)
      refine lv_tableIn (tgt := 112) (off := 111) hx hb dX12_kindBy_1 (by rw [hsw_1]; decide) (by rw [hsw_1]; decide) (by rw [hsw_1]; rfl) (by decide) ?_
      refine lv_bipush (v := (6 : Int32)) hx hb dX12_kindBy_112 (by decide) ?_
      subst hQ_
      exact z_iret C0 hP hS (v := (6 : Int32)) (by refine ⟨?_, rfl⟩; simp [c_kind, hsw_1]) dX12_kindBy_114
    · skip
      have hsw_1 : ch = (100 : Int32) := z_swi hsw (by decide)
      refine lv_tableIn (tgt := 102) (off := 101) hx hb dX12_kindBy_1 (by rw [hsw_1]; decide) (by rw [hsw_1]; decide) (by rw [hsw_1]; rfl) (by decide) ?_
      refine lv_iconst (v := (1 : Int32)) hx hb dX12_kindBy_102 (by decide) ?_
      subst hQ_
      exact z_iret C0 hP hS (v := (1 : Int32)) (by refine ⟨?_, rfl⟩; simp [c_kind, hsw_1]) dX12_kindBy_103
    · skip
      have hsw_1 : ch = (101 : Int32) := z_swi hsw (by decide)
      refine lv_tableIn (tgt := 115) (off := 114) hx hb dX12_kindBy_1 (by rw [hsw_1]; decide) (by rw [hsw_1]; decide) (by rw [hsw_1]; rfl) (by decide) ?_
      refine lv_bipush (v := (-9 : Int32)) hx hb dX12_kindBy_115 (by decide) ?_
      subst hQ_
      exact z_iret C0 hP hS (v := (-9 : Int32)) (by refine ⟨?_, rfl⟩; simp [c_kind, hsw_1]) dX12_kindBy_117
    · skip
      have hsw_1 : ch = (102 : Int32) := z_swi hsw (by decide)
      refine lv_tableIn (tgt := 110) (off := 109) hx hb dX12_kindBy_1 (by rw [hsw_1]; decide) (by rw [hsw_1]; decide) (by rw [hsw_1]; rfl) (by decide) ?_
      refine lv_iconst (v := (5 : Int32)) hx hb dX12_kindBy_110 (by decide) ?_
      subst hQ_
      exact z_iret C0 hP hS (v := (5 : Int32)) (by refine ⟨?_, rfl⟩; simp [c_kind, hsw_1]) dX12_kindBy_111
    · skip
      have hsw_1 : ch = (103 : Int32) := z_swi hsw (by decide)
      refine lv_tableIn (tgt := 115) (off := 114) hx hb dX12_kindBy_1 (by rw [hsw_1]; decide) (by rw [hsw_1]; decide) (by rw [hsw_1]; rfl) (by decide) ?_
      refine lv_bipush (v := (-9 : Int32)) hx hb dX12_kindBy_115 (by decide) ?_
      subst hQ_
      exact z_iret C0 hP hS (v := (-9 : Int32)) (by refine ⟨?_, rfl⟩; simp [c_kind, hsw_1]) dX12_kindBy_117
    · skip
      have hsw_1 : ch = (104 : Int32) := z_swi hsw (by decide)
      refine lv_tableIn (tgt := 106) (off := 105) hx hb dX12_kindBy_1 (by rw [hsw_1]; decide) (by rw [hsw_1]; decide) (by rw [hsw_1]; rfl) (by decide) ?_
      refine lv_iconst (v := (3 : Int32)) hx hb dX12_kindBy_106 (by decide) ?_
      subst hQ_
      exact z_iret C0 hP hS (v := (3 : Int32)) (by refine ⟨?_, rfl⟩; simp [c_kind, hsw_1]) dX12_kindBy_107
    · skip
      have hsw_1 : ch = (105 : Int32) := z_swi hsw (by decide)
      refine lv_tableIn (tgt := 115) (off := 114) hx hb dX12_kindBy_1 (by rw [hsw_1]; decide) (by rw [hsw_1]; decide) (by rw [hsw_1]; rfl) (by decide) ?_
      refine lv_bipush (v := (-9 : Int32)) hx hb dX12_kindBy_115 (by decide) ?_
      subst hQ_
      exact z_iret C0 hP hS (v := (-9 : Int32)) (by refine ⟨?_, rfl⟩; simp [c_kind, hsw_1]) dX12_kindBy_117
    · skip
      have hsw_1 : ch = (106 : Int32) := z_swi hsw (by decide)
      refine lv_tableIn (tgt := 115) (off := 114) hx hb dX12_kindBy_1 (by rw [hsw_1]; decide) (by rw [hsw_1]; decide) (by rw [hsw_1]; rfl) (by decide) ?_
      refine lv_bipush (v := (-9 : Int32)) hx hb dX12_kindBy_115 (by decide) ?_
      subst hQ_
      exact z_iret C0 hP hS (v := (-9 : Int32)) (by refine ⟨?_, rfl⟩; simp [c_kind, hsw_1]) dX12_kindBy_117
    · skip
      have hsw_1 : ch = (107 : Int32) := z_swi hsw (by decide)
      refine lv_tableIn (tgt := 115) (off := 114) hx hb dX12_kindBy_1 (by rw [hsw_1]; decide) (by rw [hsw_1]; decide) (by rw [hsw_1]; rfl) (by decide) ?_
      refine lv_bipush (v := (-9 : Int32)) hx hb dX12_kindBy_115 (by decide) ?_
      subst hQ_
      exact z_iret C0 hP hS (v := (-9 : Int32)) (by refine ⟨?_, rfl⟩; simp [c_kind, hsw_1]) dX12_kindBy_117
    · skip
      have hsw_1 : ch = (108 : Int32) := z_swi hsw (by decide)
      refine lv_tableIn (tgt := 115) (off := 114) hx hb dX12_kindBy_1 (by rw [hsw_1]; decide) (by rw [hsw_1]; decide) (by rw [hsw_1]; rfl) (by decide) ?_
      refine lv_bipush (v := (-9 : Int32)) hx hb dX12_kindBy_115 (by decide) ?_
      subst hQ_
      exact z_iret C0 hP hS (v := (-9 : Int32)) (by refine ⟨?_, rfl⟩; simp [c_kind, hsw_1]) dX12_kindBy_117
    · skip
      have hsw_1 : ch = (109 : Int32) := z_swi hsw (by decide)
      refine lv_tableIn (tgt := 115) (off := 114) hx hb dX12_kindBy_1 (by rw [hsw_1]; decide) (by rw [hsw_1]; decide) (by rw [hsw_1]; rfl) (by decide) ?_
      refine lv_bipush (v := (-9 : Int32)) hx hb dX12_kindBy_115 (by decide) ?_
      subst hQ_
      exact z_iret C0 hP hS (v := (-9 : Int32)) (by refine ⟨?_, rfl⟩; simp [c_kind, hsw_1]) dX12_kindBy_117
    · skip
      have hsw_1 : ch = (110 : Int32) := z_swi hsw (by decide)
      refine lv_tableIn (tgt := 115) (off := 114) hx hb dX12_kindBy_1 (by rw [hsw_1]; decide) (by rw [hsw_1]; decide) (by rw [hsw_1]; rfl) (by decide) ?_
      refine lv_bipush (v := (-9 : Int32)) hx hb dX12_kindBy_115 (by decide) ?_
      subst hQ_
      exact z_iret C0 hP hS (v := (-9 : Int32)) (by refine ⟨?_, rfl⟩; simp [c_kind, hsw_1]) dX12_kindBy_117
    · skip
      have hsw_1 : ch = (111 : Int32) := z_swi hsw (by decide)
      refine lv_tableIn (tgt := 115) (off := 114) hx hb dX12_kindBy_1 (by rw [hsw_1]; decide) (by rw [hsw_1]; decide) (by rw [hsw_1]; rfl) (by decide) ?_
      refine lv_bipush (v := (-9 : Int32)) hx hb dX12_kindBy_115 (by decide) ?_
      subst hQ_
      exact z_iret C0 hP hS (v := (-9 : Int32)) (by refine ⟨?_, rfl⟩; simp [c_kind, hsw_1]) dX12_kindBy_117
    · skip
      have hsw_1 : ch = (112 : Int32) := z_swi hsw (by decide)
      refine lv_tableIn (tgt := 115) (off := 114) hx hb dX12_kindBy_1 (by rw [hsw_1]; decide) (by rw [hsw_1]; decide) (by rw [hsw_1]; rfl) (by decide) ?_
      refine lv_bipush (v := (-9 : Int32)) hx hb dX12_kindBy_115 (by decide) ?_
      subst hQ_
      exact z_iret C0 hP hS (v := (-9 : Int32)) (by refine ⟨?_, rfl⟩; simp [c_kind, hsw_1]) dX12_kindBy_117
    · skip
      have hsw_1 : ch = (113 : Int32) := z_swi hsw (by decide)
      refine lv_tableIn (tgt := 115) (off := 114) hx hb dX12_kindBy_1 (by rw [hsw_1]; decide) (by rw [hsw_1]; decide) (by rw [hsw_1]; rfl) (by decide) ?_
      refine lv_bipush (v := (-9 : Int32)) hx hb dX12_kindBy_115 (by decide) ?_
      subst hQ_
      exact z_iret C0 hP hS (v := (-9 : Int32)) (by refine ⟨?_, rfl⟩; simp [c_kind, hsw_1]) dX12_kindBy_117
    · skip
      have hsw_1 : ch = (114 : Int32) := z_swi hsw (by decide)
      refine lv_tableIn (tgt := 104) (off := 103) hx hb dX12_kindBy_1 (by rw [hsw_1]; decide) (by rw [hsw_1]; decide) (by rw [hsw_1]; rfl) (by decide) ?_
      refine lv_iconst (v := (2 : Int32)) hx hb dX12_kindBy_104 (by decide) ?_
      subst hQ_
      exact z_iret C0 hP hS (v := (2 : Int32)) (by refine ⟨?_, rfl⟩; simp [c_kind, hsw_1]) dX12_kindBy_105
    · skip
      have hsw_1 : ch = (115 : Int32) := z_swi hsw (by decide)
      refine lv_tableIn (tgt := 100) (off := 99) hx hb dX12_kindBy_1 (by rw [hsw_1]; decide) (by rw [hsw_1]; decide) (by rw [hsw_1]; rfl) (by decide) ?_
      refine lv_iconst (v := (0 : Int32)) hx hb dX12_kindBy_100 (by decide) ?_
      subst hQ_
      exact z_iret C0 hP hS (v := (0 : Int32)) (by refine ⟨?_, rfl⟩; simp [c_kind, hsw_1]) dX12_kindBy_101
    · skip
      have hsw_1 : ch = (116 : Int32) := z_swi hsw (by decide)
      refine lv_tableIn (tgt := 115) (off := 114) hx hb dX12_kindBy_1 (by rw [hsw_1]; decide) (by rw [hsw_1]; decide) (by rw [hsw_1]; rfl) (by decide) ?_
      refine lv_bipush (v := (-9 : Int32)) hx hb dX12_kindBy_115 (by decide) ?_
      subst hQ_
      exact z_iret C0 hP hS (v := (-9 : Int32)) (by refine ⟨?_, rfl⟩; simp [c_kind, hsw_1]) dX12_kindBy_117
    · skip
      have hsw_1 : ch = (117 : Int32) := z_swi hsw (by decide)
      refine lv_tableIn (tgt := 115) (off := 114) hx hb dX12_kindBy_1 (by rw [hsw_1]; decide) (by rw [hsw_1]; decide) (by rw [hsw_1]; rfl) (by decide) ?_
      refine lv_bipush (v := (-9 : Int32)) hx hb dX12_kindBy_115 (by decide) ?_
      subst hQ_
      exact z_iret C0 hP hS (v := (-9 : Int32)) (by refine ⟨?_, rfl⟩; simp [c_kind, hsw_1]) dX12_kindBy_117
    · skip
      have hsw_1 : ch = (118 : Int32) := z_swi hsw (by decide)
      refine lv_tableIn (tgt := 115) (off := 114) hx hb dX12_kindBy_1 (by rw [hsw_1]; decide) (by rw [hsw_1]; decide) (by rw [hsw_1]; rfl) (by decide) ?_
      refine lv_bipush (v := (-9 : Int32)) hx hb dX12_kindBy_115 (by decide) ?_
      subst hQ_
      exact z_iret C0 hP hS (v := (-9 : Int32)) (by refine ⟨?_, rfl⟩; simp [c_kind, hsw_1]) dX12_kindBy_117
    · skip
      have hsw_1 : ch = (119 : Int32) := z_swi hsw (by decide)
      refine lv_tableIn (tgt := 108) (off := 107) hx hb dX12_kindBy_1 (by rw [hsw_1]; decide) (by rw [hsw_1]; decide) (by rw [hsw_1]; rfl) (by decide) ?_
      refine lv_iconst (v := (4 : Int32)) hx hb dX12_kindBy_108 (by decide) ?_
      subst hQ_
      exact z_iret C0 hP hS (v := (4 : Int32)) (by refine ⟨?_, rfl⟩; simp [c_kind, hsw_1]) dX12_kindBy_109
theorem mlRX12_123 : Cond.methodLink RX12 123 yX12_kindBy ∈ zU := zU_m 896 (by decide +kernel) rfl
theorem coX12_kindBy : Cond.code yX12_kindBy cX12_kindBy 1 (some .int) ∈ zU := zU_m 898 (by decide +kernel) rfl
theorem stX12_kindBy : Cond.static yX12_kindBy ∈ zU := zU_m 897 (by decide +kernel) rfl
set_option maxHeartbeats 4000000 in
set_option maxRecDepth 100000 in
theorem c_X12_readsKind (l : Launch) (E : zE) (G : zG) (L : Nat → Int32) (K p m : Nat) (hL : G 97 = L) (hK : G 92 8 = nI K) (hpp : G 92 13 = nI p) (hmm : G 92 15 = nI m) (hK96 : K ≤ 96) (hpK : p ≤ K)  : zMi l yX12_readsKind wsX12_readsKind ({ frames := 1, cells := 0, slots := 0, locals := 20 } : Room) E G [.ref (E.1 92)] (fun r1 G1 => (1 = r1 ∧ p < K ∧ ¬ c_kind (L p) = -9 ∧ (∀ k, (k < 92 ∨ (92 < k ∧ k < 103) ∨ 103 < k) → G1 k = G k) ∧ (∀ x, x ≠ 13 → x ≠ 15 → G1 92 x = G 92 x) ∧ G1 92 13 = nI (p + 1) ∧ G1 92 15 = nI 1 ∧ G1 103 = upd (G 103) 0 (c_kind (L p))) ∨ (0 = r1 ∧ G = G1 ∧ ¬ (p < K ∧ ¬ c_kind (L p) = -9))) := by
  refine zOf (cc := cX12_readsKind) (nL := 2) (ret := (some .boolean)) RX12 (by decide) rfl rfl (Nat.le_of_ble_eq_true rfl) ?_
  intro p_ e_ s_ m_ a_ b_ me_ c_ ls C0 hP hS hl
  have hx := C0.1
  have hb := C0.2.1
  have hts := C0.2.2.2.2.1
  have hD : zD E (zA E s_.heap.size) := C0.2.2.2.2.2.2.2.2
  have hA : ∀ q : Nat, s_.heap.size ≤ q → zA E s_.heap.size q := fun q h => Or.inr h
  refine z_gen (fun Q_ hQ_ => ?_)
  have hl : lv_has ls 2 [(0, .ref (E.1 92))] := hl
  refine lv_aload_n hx hb dX12_readsKind_0 rfl (lv_at hl 0 rfl) ?_
  refine z_Vi C0 hP hD hA hS (As := []) (rest := []) (k := 92) (c_X12_here l E _ L K p m (hL) (hK) (hpp) (hmm) hK96 (by omega)) (cwV 0 hts (zgV zbw mlRX12_112 imX12_here seX12_here iniRX12 coX12_here) rfl rfl rfl (by decide +kernel) ⟨Nat.le_of_ble_eq_true rfl, Nat.le_of_ble_eq_true rfl⟩) (zk_lt (rfl : zk 92 = 10) (by decide)) (zd_10 E (rfl : zk 92 = 10) _) rfl rfl rfl hl.1 rfl (Nat.le_of_ble_eq_true rfl) dX12_readsKind_1 ⟨Nat.zero_le _, Nat.zero_le _⟩ (fun r1 G1 H locs hw1 hP hS => ?_)
  rcases hw1 with ⟨hpk1, rfl, rfl⟩ | ⟨hpk1, rfl, rfl⟩
  · skip
    refine z_Si C0 hP hD hA hS (As := [.int (L p)]) (rest := []) (c_X12_kindBy l E _ (L p)) (va_cwS 1 hts (zgS zbw mlRX12_123 stX12_kindBy iniRX12 coX12_kindBy) rfl rfl rfl (by decide +kernel) ⟨Nat.le_of_ble_eq_true rfl, Nat.le_of_ble_eq_true rfl⟩) rfl hl.1 rfl (Nat.le_of_ble_eq_true rfl) dX12_readsKind_4 ⟨Nat.zero_le _, Nat.zero_le _⟩ (fun r2 G2 H locs hw2 hP hS => ?_)
    obtain ⟨rfl, rfl⟩ := hw2
    refine lv_istore_n (lv' := [(1, .int (c_kind (L p))), (0, .ref (E.1 92))]) hx hb dX12_readsKind_7 rfl hl (by decide) rfl (fun ls hl => ?_)
    refine lv_iload_n hx hb dX12_readsKind_8 rfl (lv_at hl 0 rfl) ?_
    refine lv_if_ge (tgt := 14) hx hb dX12_readsKind_9 (by decide) (fun c_9 => ?_) (fun c_9 => ?_)
    · skip
      have d_9 := Int32.not_lt.mpr c_9
      refine lv_aload_n hx hb dX12_readsKind_14 rfl (lv_at hl 1 rfl) ?_
      refine z_get C0 hP (C := RX12) (T := TX12) (N := 21) (ci := 10) (index := 40) (k := 92) (ref := "WetSuitPedalsShoesModel") (zk_lt (rfl : zk 92 = 10) (by decide)) (zd_10 E (rfl : zk 92 = 10) _) rfl (zmi inU_12) 14 (by decide) (zm flRX12_40) rfl (v := .ref (E.1 103)) (rfl) dX12_readsKind_15 ?_
      refine lv_iconst (v := (0 : Int32)) hx hb dX12_readsKind_18 (by decide) ?_
      refine lv_iload_n hx hb dX12_readsKind_19 rfl (lv_at hl 0 rfl) ?_
      refine z_iast C0 hP hD hS (k := 103) (i := 0) (v := (c_kind (L p))) (F := G 103) (rfl) (rfl : zk 103 = 11) (Nat.lt_of_lt_of_eq (show 0 < 12 by decide) (rfl : zl 103 = 12).symm) rfl dX12_readsKind_20 (fun H locs hP hS => ?_)
      refine lv_aload_n hx hb dX12_readsKind_21 rfl (lv_at hl 1 rfl) ?_
      refine lv_iconst (v := (1 : Int32)) hx hb dX12_readsKind_22 (by decide) ?_
      refine z_put C0 hP hD hS (C := RX12) (T := TX12) (N := 21) (ci := 10) (index := 116) (k := 92) (ref := "WetSuitPedalsShoesModel") (F := G 92) (ty := .int) (g1_n (by decide)) tyX12 tyX12_ok nmX12 (zk_lt (rfl : zk 92 = 10) (by decide)) (zd_10 E (rfl : zk 92 = 10) _) rfl (zmi inU_12) 15 (by decide) (zm flRX12_116) rfl rfl (by decide +kernel) (by rfl) rfl (by show 15 < 21; decide) (upd (G 92) 15 (1 : Int32)) ((zd_10 E (rfl : zk 92 = 10) _).trans (rfl)) dX12_readsKind_23 (fun H locs hP hS => ?_)
      refine lv_aload_n hx hb dX12_readsKind_26 rfl (lv_at hl 1 rfl) ?_
      refine lv_dup hx hb dX12_readsKind_27 rfl ?_
      refine z_get C0 hP (C := RX12) (T := TX12) (N := 21) (ci := 10) (index := 109) (k := 92) (ref := "WetSuitPedalsShoesModel") (zk_lt (rfl : zk 92 = 10) (by decide)) (zd_10 E (rfl : zk 92 = 10) _) rfl (zmi inU_12) 13 (by decide) (zm flRX12_109) rfl (v := .int (nI p)) (congrArg (fun z => some (Value.int z)) ((congrFun (g1_s _ _ _) _).trans ((pk_un (by decide)).trans (hpp)))) dX12_readsKind_28 ?_
      refine lv_iconst (v := (1 : Int32)) hx hb dX12_readsKind_31 (by decide) ?_
      refine z_iadd hx hb (a := p) (b := 1) (n := p + 1) dX12_readsKind_32 rfl rfl rfl ?_
      refine z_put C0 hP hD hS (C := RX12) (T := TX12) (N := 21) (ci := 10) (index := 109) (k := 92) (ref := "WetSuitPedalsShoesModel") (F := (upd (G 92) 15 (1 : Int32))) (ty := .int) (g1_s _ _ _) tyX12 tyX12_ok nmX12 (zk_lt (rfl : zk 92 = 10) (by decide)) (zd_10 E (rfl : zk 92 = 10) _) rfl (zmi inU_12) 13 (by decide) (zm flRX12_109) rfl rfl (by decide +kernel) (by rfl) rfl (by show 13 < 21; decide) (upd (upd (G 92) 15 (1 : Int32)) 13 (nI (p + 1))) ((zd_10 E (rfl : zk 92 = 10) _).trans (rfl)) dX12_readsKind_33 (fun H locs hP hS => ?_)
      have hP := zP_eq (g1_t _ _ _ _ : _ = (g1 (g1 G 103 (upd (G 103) 0 (c_kind (L p)))) 92 (upd (upd (G 92) 15 (1 : Int32)) 13 (nI (p + 1))))) hP
      refine lv_iconst (v := (1 : Int32)) hx hb dX12_readsKind_36 (by decide) ?_
      subst hQ_
      exact z_zret C0 hP hS (v := (1 : Int32)) (by decide) (by first | exact absurd c_9 (by decide) | exact Or.inl ⟨rfl, by omega, kind_pos (Int32.not_lt.mpr c_9), (fun k hk => (g1_n (by omega)).trans (g1_n (by omega))), (fun x a b => (congrFun (g1_s _ _ _) x).trans ((pk_un a).trans (pk_un b))), (congrFun (g1_s _ _ _) _).trans (pk_us), (congrFun (g1_s _ _ _) _).trans ((pk_un (by decide)).trans (pk_us)), (g1_n (by decide)).trans (g1_s _ _ _)⟩) dX12_readsKind_37
    · skip
      have d_9 := Int32.not_le.mp c_9
      refine lv_iconst (v := (0 : Int32)) hx hb dX12_readsKind_12 (by decide) ?_
      subst hQ_
      exact z_zret C0 hP hS (v := (0 : Int32)) (by decide) (by exact Or.inr ⟨rfl, rfl, fun q => by first | exact q.2 (kind_neg (Int32.not_le.mp c_9)) | exact absurd q.1 (by omega)⟩) dX12_readsKind_13
  · skip
    refine z_Si C0 hP hD hA hS (As := [.int (-1 : Int32)]) (rest := []) (c_X12_kindBy l E _ (-1 : Int32)) (va_cwS 1 hts (zgS zbw mlRX12_123 stX12_kindBy iniRX12 coX12_kindBy) rfl rfl rfl (by decide +kernel) ⟨Nat.le_of_ble_eq_true rfl, Nat.le_of_ble_eq_true rfl⟩) rfl hl.1 rfl (Nat.le_of_ble_eq_true rfl) dX12_readsKind_4 ⟨Nat.zero_le _, Nat.zero_le _⟩ (fun r3 G3 H locs hw3 hP hS => ?_)
    obtain ⟨rfl, rfl⟩ := hw3
    refine lv_istore_n (lv' := [(1, .int (c_kind (-1 : Int32))), (0, .ref (E.1 92))]) hx hb dX12_readsKind_7 rfl hl (by decide) rfl (fun ls hl => ?_)
    refine lv_iload_n hx hb dX12_readsKind_8 rfl (lv_at hl 0 rfl) ?_
    refine lv_if_ge (tgt := 14) hx hb dX12_readsKind_9 (by decide) (fun c_9 => ?_) (fun c_9 => ?_)
    · skip
      have d_9 := Int32.not_lt.mpr c_9
      refine lv_aload_n hx hb dX12_readsKind_14 rfl (lv_at hl 1 rfl) ?_
      refine z_get C0 hP (C := RX12) (T := TX12) (N := 21) (ci := 10) (index := 40) (k := 92) (ref := "WetSuitPedalsShoesModel") (zk_lt (rfl : zk 92 = 10) (by decide)) (zd_10 E (rfl : zk 92 = 10) _) rfl (zmi inU_12) 14 (by decide) (zm flRX12_40) rfl (v := .ref (E.1 103)) (rfl) dX12_readsKind_15 ?_
      refine lv_iconst (v := (0 : Int32)) hx hb dX12_readsKind_18 (by decide) ?_
      refine lv_iload_n hx hb dX12_readsKind_19 rfl (lv_at hl 0 rfl) ?_
      refine z_iast C0 hP hD hS (k := 103) (i := 0) (v := (c_kind (-1 : Int32))) (F := G 103) (rfl) (rfl : zk 103 = 11) (Nat.lt_of_lt_of_eq (show 0 < 12 by decide) (rfl : zl 103 = 12).symm) rfl dX12_readsKind_20 (fun H locs hP hS => ?_)
      refine lv_aload_n hx hb dX12_readsKind_21 rfl (lv_at hl 1 rfl) ?_
      refine lv_iconst (v := (1 : Int32)) hx hb dX12_readsKind_22 (by decide) ?_
      refine z_put C0 hP hD hS (C := RX12) (T := TX12) (N := 21) (ci := 10) (index := 116) (k := 92) (ref := "WetSuitPedalsShoesModel") (F := G 92) (ty := .int) (g1_n (by decide)) tyX12 tyX12_ok nmX12 (zk_lt (rfl : zk 92 = 10) (by decide)) (zd_10 E (rfl : zk 92 = 10) _) rfl (zmi inU_12) 15 (by decide) (zm flRX12_116) rfl rfl (by decide +kernel) (by rfl) rfl (by show 15 < 21; decide) (upd (G 92) 15 (1 : Int32)) ((zd_10 E (rfl : zk 92 = 10) _).trans (rfl)) dX12_readsKind_23 (fun H locs hP hS => ?_)
      refine lv_aload_n hx hb dX12_readsKind_26 rfl (lv_at hl 1 rfl) ?_
      refine lv_dup hx hb dX12_readsKind_27 rfl ?_
      refine z_get C0 hP (C := RX12) (T := TX12) (N := 21) (ci := 10) (index := 109) (k := 92) (ref := "WetSuitPedalsShoesModel") (zk_lt (rfl : zk 92 = 10) (by decide)) (zd_10 E (rfl : zk 92 = 10) _) rfl (zmi inU_12) 13 (by decide) (zm flRX12_109) rfl (v := .int (nI p)) (congrArg (fun z => some (Value.int z)) ((congrFun (g1_s _ _ _) _).trans ((pk_un (by decide)).trans (hpp)))) dX12_readsKind_28 ?_
      refine lv_iconst (v := (1 : Int32)) hx hb dX12_readsKind_31 (by decide) ?_
      refine z_iadd hx hb (a := p) (b := 1) (n := p + 1) dX12_readsKind_32 rfl rfl rfl ?_
      refine z_put C0 hP hD hS (C := RX12) (T := TX12) (N := 21) (ci := 10) (index := 109) (k := 92) (ref := "WetSuitPedalsShoesModel") (F := (upd (G 92) 15 (1 : Int32))) (ty := .int) (g1_s _ _ _) tyX12 tyX12_ok nmX12 (zk_lt (rfl : zk 92 = 10) (by decide)) (zd_10 E (rfl : zk 92 = 10) _) rfl (zmi inU_12) 13 (by decide) (zm flRX12_109) rfl rfl (by decide +kernel) (by rfl) rfl (by show 13 < 21; decide) (upd (upd (G 92) 15 (1 : Int32)) 13 (nI (p + 1))) ((zd_10 E (rfl : zk 92 = 10) _).trans (rfl)) dX12_readsKind_33 (fun H locs hP hS => ?_)
      have hP := zP_eq (g1_t _ _ _ _ : _ = (g1 (g1 G 103 (upd (G 103) 0 (c_kind (-1 : Int32)))) 92 (upd (upd (G 92) 15 (1 : Int32)) 13 (nI (p + 1))))) hP
      refine lv_iconst (v := (1 : Int32)) hx hb dX12_readsKind_36 (by decide) ?_
      subst hQ_
      exact z_zret C0 hP hS (v := (1 : Int32)) (by decide) (by first | exact absurd c_9 (by decide) | exact Or.inl ⟨rfl, by omega, kind_pos (Int32.not_lt.mpr c_9), (fun k hk => (g1_n (by omega)).trans (g1_n (by omega))), (fun x a b => (congrFun (g1_s _ _ _) x).trans ((pk_un a).trans (pk_un b))), (congrFun (g1_s _ _ _) _).trans (pk_us), (congrFun (g1_s _ _ _) _).trans ((pk_un (by decide)).trans (pk_us)), (g1_n (by decide)).trans (g1_s _ _ _)⟩) dX12_readsKind_37
    · skip
      have d_9 := Int32.not_le.mp c_9
      refine lv_iconst (v := (0 : Int32)) hx hb dX12_readsKind_12 (by decide) ?_
      subst hQ_
      exact z_zret C0 hP hS (v := (0 : Int32)) (by decide) (by exact Or.inr ⟨rfl, rfl, fun q => by first | exact q.2 (kind_neg (Int32.not_le.mp c_9)) | exact absurd q.1 (by omega)⟩) dX12_readsKind_13
theorem mlRX12_126 : Cond.methodLink RX12 126 yX12_readsDigits ∈ zU := zU_m 899 (by decide +kernel) rfl
theorem coX12_readsDigits : Cond.code yX12_readsDigits cX12_readsDigits 4 (some .boolean) ∈ zU := zU_m 902 (by decide +kernel) rfl
theorem imX12_readsDigits : Cond.instanceMethod yX12_readsDigits ∈ zU := zU_m 901 (by decide +kernel) rfl
theorem seX12_readsDigits : Cond.selects RX12 yX12_readsDigits yX12_readsDigits ∈ zU := zU_m 30 (by decide +kernel) rfl
set_option maxHeartbeats 4000000 in
set_option maxRecDepth 100000 in
theorem c_X12_readsPlan (l : Launch) (E : zE) (G : zG) (L : Nat → Int32) (K p m : Nat) (hL : G 97 = L) (hK : G 92 8 = nI K) (hpp : G 92 13 = nI p) (hmm : G 92 15 = nI m) (hK96 : K ≤ 96) (hpK : p ≤ K) (hm0 : m = 0) : zMi l yX12_readsPlan wsX12_readsPlan ({ frames := 3, cells := 0, slots := 0, locals := 65 } : Room) E G [.ref (E.1 92)] (fun r1 G1 => (1 = r1 ∧ ∃ j, 2 ≤ j ∧ j ≤ 10 ∧ RDg G G1 L K p m j ∧ (j < 10 → ¬ (p + j < K ∧ c_dig (L (p + j)) = true))) ∨ (0 = r1 ∧ ∃ j, j < 2 ∧ RDg G G1 L K p m j ∧ ¬ (p + j < K ∧ c_dig (L (p + j)) = true))) := by
  refine zOf (cc := cX12_readsPlan) (nL := 2) (ret := (some .boolean)) RX12 (by decide) rfl rfl (Nat.le_of_ble_eq_true rfl) ?_
  intro p_ e_ s_ m_ a_ b_ me_ c_ ls C0 hP hS hl
  have hx := C0.1
  have hb := C0.2.1
  have hts := C0.2.2.2.2.1
  have hD : zD E (zA E s_.heap.size) := C0.2.2.2.2.2.2.2.2
  have hA : ∀ q : Nat, s_.heap.size ≤ q → zA E s_.heap.size q := fun q h => Or.inr h
  refine z_gen (fun Q_ hQ_ => ?_)
  have hl : lv_has ls 2 [(0, .ref (E.1 92))] := hl
  refine lv_aload_n hx hb dX12_readsPlan_0 rfl (lv_at hl 0 rfl) ?_
  refine lv_iconst (v := (2 : Int32)) hx hb dX12_readsPlan_1 (by decide) ?_
  refine z_Vi C0 hP hD hA hS (As := [.int (2 : Int32)]) (rest := []) (k := 92) (c_X12_readsDigits l E _ L K p m (hL) (hK) (hpp) (hmm) hK96 (by omega) 2 (by omega)) (cwV 1 hts (zgV zbw mlRX12_126 imX12_readsDigits seX12_readsDigits iniRX12 coX12_readsDigits) rfl rfl rfl (by decide +kernel) ⟨Nat.le_of_ble_eq_true rfl, Nat.le_of_ble_eq_true rfl⟩) (zk_lt (rfl : zk 92 = 10) (by decide)) (zd_10 E (rfl : zk 92 = 10) _) rfl rfl rfl hl.1 rfl (Nat.le_of_ble_eq_true rfl) dX12_readsPlan_2 ⟨Nat.zero_le _, Nat.zero_le _⟩ (fun r1 G1 H locs hw1 hP hS => ?_)
  rcases hw1 with ⟨rfl, hD1⟩ | ⟨rfl, jj, hjj, hD1, hnd1⟩
  · skip
    have hF1 := hD1.2.2.1
    have hle1 := RDg_le hD1 (show p ≤ K by omega)
    refine lv_if_ne (tgt := 10) hx hb dX12_readsPlan_5 (by decide) (fun _ => ?_) (fun h_ => absurd h_ (by decide))
    refine lv_iconst (v := (1 : Int32)) hx hb dX12_readsPlan_10 (by decide) ?_
    refine lv_istore_n (lv' := [(1, .int (1 : Int32)), (0, .ref (E.1 92))]) hx hb dX12_readsPlan_11 rfl hl (by decide) rfl (fun ls hl => ?_)
    have cut_12 : ∀ (fuel : Nat), ∀ (k : Nat) (Gc : zG) (H : Heap) (locs : List Loc) (ls : Array Slot), (1 ≤ k ∧ k ≤ 9) → (∀ k, (k < 92 ∨ (92 < k ∧ k < 103) ∨ 103 < k) → Gc k = G k) → (RDg G Gc L K p m (k + 1)) → zP E Gc H → va_S (zA E s_.heap.size) s_.heap H locs → lv_has ls 2 [(0, .ref (E.1 92)), (1, .int (nI k))] → 9 - k < fuel → W p_ l e_ ({ frames := 3, cells := 0, slots := 0, locals := 65 } : Room) s_ m_ a_ b_ me_ c_ H locs 0 0 Q_ (F0 m_ 12 ls []) := by
      intro fuel
      induction fuel with
      | zero =>
        intro k  Gc  H locs ls hk hFc hR9 hP hS hl hfu
        exact absurd hfu (Nat.not_lt_zero _)
      | succ fuel ih_12 =>
        intro k  Gc  H locs ls hk hFc hR9 hP hS hl hfu_12
        have hle9 := RDg_le hR9 hpK
        refine lv_iload_n hx hb dX12_readsPlan_12 rfl (lv_at hl 1 rfl) ?_
        refine lv_bipush (v := (9 : Int32)) hx hb dX12_readsPlan_13 (by decide) ?_
        refine z_N_ge hx hb (a := k) (b := 9) (tgt := 47) dX12_readsPlan_15 rfl rfl (by omega) (by omega) (by decide) (fun c_15 => ?_) (fun c_15 => ?_)
        · skip
          refine lv_iconst (v := (1 : Int32)) hx hb dX12_readsPlan_47 (by decide) ?_
          subst hQ_
          exact z_zret C0 hP hS (v := (1 : Int32)) (by decide) (by exact Or.inl ⟨rfl, k + 1, by omega, by omega, hR9, fun hlt => by first | (exfalso; omega) | exact (fun q => by first | exact hx0 (of_decide_eq_true q.2) | exact absurd q.1 (by omega))⟩) dX12_readsPlan_48
        · skip
          refine lv_aload_n hx hb dX12_readsPlan_18 rfl (lv_at hl 0 rfl) ?_
          refine z_Vi C0 hP hD hA hS (As := []) (rest := []) (k := 92) (c_X12_here l E _ L K (p + (k + 1)) (m + (k + 1)) ((hFc _ (by decide)).trans (hL)) (((hR9.2.2.2.1 8 (by decide) (by decide)).trans hK)) (hR9.2.2.2.2.1) (hR9.2.2.2.2.2) hK96 (by omega)) (cwV 0 hts (zgV zbw mlRX12_112 imX12_here seX12_here iniRX12 coX12_here) rfl rfl rfl (by decide +kernel) ⟨Nat.le_of_ble_eq_true rfl, Nat.le_of_ble_eq_true rfl⟩) (zk_lt (rfl : zk 92 = 10) (by decide)) (zd_10 E (rfl : zk 92 = 10) _) rfl rfl rfl hl.1 rfl (Nat.le_of_ble_eq_true rfl) dX12_readsPlan_19 ⟨Nat.zero_le _, Nat.zero_le _⟩ (fun r2 G2 H locs hw2 hP hS => ?_)
          rcases hw2 with ⟨hpk9, rfl, rfl⟩ | ⟨hpk9, rfl, rfl⟩
          · skip
            refine lv_bipush (v := (48 : Int32)) hx hb dX12_readsPlan_22 (by decide) ?_
            refine lv_bipush (v := (57 : Int32)) hx hb dX12_readsPlan_24 (by decide) ?_
            refine z_Si C0 hP hD hA hS (As := [.int (L (p + (k + 1))), .int (48 : Int32), .int (57 : Int32)]) (rest := []) (c_X12_isIn l E _ (L (p + (k + 1))) (48 : Int32) (57 : Int32)) (va_cwS 3 hts (zgS zbw mlRX12_62 stX12_isIn iniRX12 coX12_isIn) rfl rfl rfl (by decide +kernel) ⟨Nat.le_of_ble_eq_true rfl, Nat.le_of_ble_eq_true rfl⟩) rfl hl.1 rfl (Nat.le_of_ble_eq_true rfl) dX12_readsPlan_26 ⟨Nat.zero_le _, Nat.zero_le _⟩ (fun r3 G3 H locs hw3 hP hS => ?_)
            rcases hw3 with ⟨rfl, rfl, hi1_3, hi2_3⟩ | ⟨rfl, rfl, hi0_3⟩
            · skip
              have hi3_3 := Int32.not_lt.mpr hi1_3
              have hi4_3 := Int32.not_lt.mpr hi2_3
              have hx1 := hi1_3
              have hx2 := hi2_3
              refine lv_if_eq (tgt := 47) hx hb dX12_readsPlan_29 (by decide) (fun h_ => absurd h_ (by decide)) (fun _ => ?_)
              refine lv_aload_n hx hb dX12_readsPlan_32 rfl (lv_at hl 0 rfl) ?_
              refine z_Vi C0 hP hD hA hS (As := []) (rest := []) (k := 92) (c_X12_readsDigit l E _ L K (p + (k + 1)) (m + (k + 1)) ((hFc _ (by decide)).trans (hL)) (((hR9.2.2.2.1 8 (by decide) (by decide)).trans hK)) (hR9.2.2.2.2.1) (hR9.2.2.2.2.2) hK96 (by omega) (by omega)) (cwV 0 hts (zgV zbw mlRX12_119 imX12_readsDigit seX12_readsDigit iniRX12 coX12_readsDigit) rfl rfl rfl (by decide +kernel) ⟨Nat.le_of_ble_eq_true rfl, Nat.le_of_ble_eq_true rfl⟩) (zk_lt (rfl : zk 92 = 10) (by decide)) (zd_10 E (rfl : zk 92 = 10) _) rfl rfl rfl hl.1 rfl (Nat.le_of_ble_eq_true rfl) dX12_readsPlan_33 ⟨Nat.zero_le _, Nat.zero_le _⟩ (fun r4 G4 H locs hw4 hP hS => ?_)
              rcases hw4 with ⟨rfl, hpk4, hdg4, hF4, hr94, h134, h154, hnm4⟩ | ⟨rfl, rfl, hnd4⟩
              · skip
                refine lv_if_ne (tgt := 41) hx hb dX12_readsPlan_36 (by decide) (fun _ => ?_) (fun h_ => absurd h_ (by decide))
                refine lv_iinc (v := (nI (k + 1))) (lv' := [(1, .int (nI (k + 1))), (0, .ref (E.1 92))]) hx hb dX12_readsPlan_41 hl (k := 1) rfl (z_inc (by decide)) (by decide) rfl (fun ls hl => ?_)
                refine lv_goto (tgt := 12) hx hb dX12_readsPlan_44 (by decide) ?_
                exact ih_12 (k + 1) G4 _ _ _ (by omega) (by exact fun k hk => (hF4 k (by omega)).trans (hFc k (by omega))) (by exact RDg_st hR9 hpk4 hdg4 hF4 hr94 h134 h154 hnm4) hP hS (lv_sub hl [1, 0] rfl) (by omega)
              · skip
                exact absurd ⟨hpk9, decide_eq_true ⟨hx1, hx2⟩⟩ hnd4
            · skip
              have hi5_3 := z_nin hi0_3
              have hx0 := hi0_3
              refine lv_if_eq (tgt := 47) hx hb dX12_readsPlan_29 (by decide) (fun _ => ?_) (fun h_ => absurd (by decide) h_)
              refine lv_iconst (v := (1 : Int32)) hx hb dX12_readsPlan_47 (by decide) ?_
              subst hQ_
              exact z_zret C0 hP hS (v := (1 : Int32)) (by decide) (by exact Or.inl ⟨rfl, k + 1, by omega, by omega, hR9, fun hlt => by first | (exfalso; omega) | exact (fun q => by first | exact hx0 (of_decide_eq_true q.2) | exact absurd q.1 (by omega))⟩) dX12_readsPlan_48
          · skip
            refine lv_bipush (v := (48 : Int32)) hx hb dX12_readsPlan_22 (by decide) ?_
            refine lv_bipush (v := (57 : Int32)) hx hb dX12_readsPlan_24 (by decide) ?_
            refine z_Si C0 hP hD hA hS (As := [.int (-1 : Int32), .int (48 : Int32), .int (57 : Int32)]) (rest := []) (c_X12_isInM l E _ ) (va_cwS 3 hts (zgS zbw mlRX12_62 stX12_isIn iniRX12 coX12_isIn) rfl rfl rfl (by decide +kernel) ⟨Nat.le_of_ble_eq_true rfl, Nat.le_of_ble_eq_true rfl⟩) rfl hl.1 rfl (Nat.le_of_ble_eq_true rfl) dX12_readsPlan_26 ⟨Nat.zero_le _, Nat.zero_le _⟩ (fun r5 G5 H locs hw5 hP hS => ?_)
            obtain ⟨rfl, rfl⟩ := hw5
            refine lv_if_eq (tgt := 47) hx hb dX12_readsPlan_29 (by decide) (fun _ => ?_) (fun h_ => absurd (by decide) h_)
            refine lv_iconst (v := (1 : Int32)) hx hb dX12_readsPlan_47 (by decide) ?_
            subst hQ_
            exact z_zret C0 hP hS (v := (1 : Int32)) (by decide) (by exact Or.inl ⟨rfl, k + 1, by omega, by omega, hR9, fun hlt => by first | (exfalso; omega) | exact (fun q => by first | exact hx0 (of_decide_eq_true q.2) | exact absurd q.1 (by omega))⟩) dX12_readsPlan_48
    exact cut_12 (_ + 1) 1 G1 _ _ _ (by omega) (by exact fun k hk => hF1 k (by omega)) (by exact hD1) hP hS (lv_sub hl [1, 0] rfl) (Nat.lt_succ_self _)
  · skip
    have hF1 := hD1.2.2.1
    have hle1 := RDg_le hD1 (show p ≤ K by omega)
    refine lv_if_ne (tgt := 10) hx hb dX12_readsPlan_5 (by decide) (fun h_ => absurd (by decide) h_) (fun _ => ?_)
    refine lv_iconst (v := (0 : Int32)) hx hb dX12_readsPlan_8 (by decide) ?_
    subst hQ_
    exact z_zret C0 hP hS (v := (0 : Int32)) (by decide) (by exact Or.inr ⟨rfl, jj, hjj, hD1, hnd1⟩) dX12_readsPlan_9
