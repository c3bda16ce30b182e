/-! laid by wip/whole/vcg.py -/
theorem mlRX12_133 : Cond.methodLink RX12 133 yX12_readsPlan ∈ zU := zU_m 910 (by decide +kernel) rfl
theorem coX12_readsPlan : Cond.code yX12_readsPlan cX12_readsPlan 2 (some .boolean) ∈ zU := zU_m 913 (by decide +kernel) rfl
theorem imX12_readsPlan : Cond.instanceMethod yX12_readsPlan ∈ zU := zU_m 912 (by decide +kernel) rfl
theorem seX12_readsPlan : Cond.selects RX12 yX12_readsPlan yX12_readsPlan ∈ zU := zU_m 32 (by decide +kernel) rfl
theorem mlRX12_130 : Cond.methodLink RX12 130 yX12_readsKind ∈ zU := zU_m 892 (by decide +kernel) rfl
theorem coX12_readsKind : Cond.code yX12_readsKind cX12_readsKind 2 (some .boolean) ∈ zU := zU_m 895 (by decide +kernel) rfl
theorem imX12_readsKind : Cond.instanceMethod yX12_readsKind ∈ zU := zU_m 894 (by decide +kernel) rfl
theorem seX12_readsKind : Cond.selects RX12 yX12_readsKind yX12_readsKind ∈ zU := zU_m 29 (by decide +kernel) rfl
set_option maxHeartbeats 4000000 in
set_option maxRecDepth 100000 in
theorem c_X12_readsStatement (l : Launch) (E : zE) (G : zG) (L : Nat → Int32) (K p m : Nat) (hL : G 97 = L) (hK : G 92 8 = nI K) (hpp : G 92 13 = nI p) (hmm : G 92 15 = nI m) (hK96 : K ≤ 96) (hpK : p ≤ K)  : zMi l yX12_readsStatement wsX12_readsStatement ({ frames := 4, cells := 0, slots := 0, locals := 86 } : Room) E G [.ref (E.1 92)] (fun r1 G1 => (1 = r1 ∧ ∃ e, e < K ∧ gram L p e ∧ RSt G G1 L p e) ∨ (0 = r1 ∧ ∃ q, g_stop L K p q ∧ (∀ k, (k < 92 ∨ (92 < k ∧ k < 103) ∨ 103 < k) → G1 k = G k) ∧ (∀ x, x ≠ 13 → x ≠ 15 → G1 92 x = G 92 x) ∧ G1 92 13 = nI q)) := by
  refine zOf (cc := cX12_readsStatement) (nL := 3) (ret := (some .boolean)) RX12 (by decide) rfl rfl (Nat.le_of_ble_eq_true rfl) ?_
  intro p_ e_ s_ m_ a_ b_ me_ c_ ls C0 hP hS hl
  have hx := C0.1
  have hb := C0.2.1
  have hts := C0.2.2.2.2.1
  have hD : zD E (zA E s_.heap.size) := C0.2.2.2.2.2.2.2.2
  have hA : ∀ q : Nat, s_.heap.size ≤ q → zA E s_.heap.size q := fun q h => Or.inr h
  refine z_gen (fun Q_ hQ_ => ?_)
  have hl : lv_has ls 3 [(0, .ref (E.1 92))] := hl
  refine lv_aload_n hx hb dX12_readsStatement_0 rfl (lv_at hl 0 rfl) ?_
  refine z_Vi C0 hP hD hA hS (As := []) (rest := []) (k := 92) (c_X12_here l E _ L K p m (hL) (hK) (hpp) (hmm) hK96 (by omega)) (cwV 0 hts (zgV zbw mlRX12_112 imX12_here seX12_here iniRX12 coX12_here) rfl rfl rfl (by decide +kernel) ⟨Nat.le_of_ble_eq_true rfl, Nat.le_of_ble_eq_true rfl⟩) (zk_lt (rfl : zk 92 = 10) (by decide)) (zd_10 E (rfl : zk 92 = 10) _) rfl rfl rfl hl.1 rfl (Nat.le_of_ble_eq_true rfl) dX12_readsStatement_1 ⟨Nat.zero_le _, Nat.zero_le _⟩ (fun r1 G1 H locs hw1 hP hS => ?_)
  rcases hw1 with ⟨hpk1, rfl, rfl⟩ | ⟨hpk1, rfl, rfl⟩
  · skip
    refine lv_istore_n (lv' := [(1, .int (L p)), (0, .ref (E.1 92))]) hx hb dX12_readsStatement_4 rfl hl (by decide) rfl (fun ls hl => ?_)
    refine lv_aload_n hx hb dX12_readsStatement_5 rfl (lv_at hl 1 rfl) ?_
    refine lv_dup hx hb dX12_readsStatement_6 rfl ?_
    refine z_get C0 hP (C := RX12) (T := TX12) (N := 21) (ci := 10) (index := 109) (k := 92) (ref := "WetSuitPedalsShoesModel") (zk_lt (rfl : zk 92 = 10) (by decide)) (zd_10 E (rfl : zk 92 = 10) _) rfl (zmi inU_12) 13 (by decide) (zm flRX12_109) rfl (v := .int (nI p)) (congrArg (fun z => some (Value.int z)) (hpp)) dX12_readsStatement_7 ?_
    refine lv_iconst (v := (1 : Int32)) hx hb dX12_readsStatement_10 (by decide) ?_
    refine z_iadd hx hb (a := p) (b := 1) (n := p + 1) dX12_readsStatement_11 rfl rfl rfl ?_
    refine z_put C0 hP hD hS (C := RX12) (T := TX12) (N := 21) (ci := 10) (index := 109) (k := 92) (ref := "WetSuitPedalsShoesModel") (F := G 92) (ty := .int) (rfl) tyX12 tyX12_ok nmX12 (zk_lt (rfl : zk 92 = 10) (by decide)) (zd_10 E (rfl : zk 92 = 10) _) rfl (zmi inU_12) 13 (by decide) (zm flRX12_109) rfl rfl (by decide +kernel) (by rfl) rfl (by show 13 < 21; decide) (upd (G 92) 13 (nI (p + 1))) ((zd_10 E (rfl : zk 92 = 10) _).trans (rfl)) dX12_readsStatement_12 (fun H locs hP hS => ?_)
    refine lv_aload_n hx hb dX12_readsStatement_15 rfl (lv_at hl 1 rfl) ?_
    refine lv_iconst (v := (0 : Int32)) hx hb dX12_readsStatement_16 (by decide) ?_
    refine z_put C0 hP hD hS (C := RX12) (T := TX12) (N := 21) (ci := 10) (index := 116) (k := 92) (ref := "WetSuitPedalsShoesModel") (F := (upd (G 92) 13 (nI (p + 1)))) (ty := .int) (g1_s _ _ _) tyX12 tyX12_ok nmX12 (zk_lt (rfl : zk 92 = 10) (by decide)) (zd_10 E (rfl : zk 92 = 10) _) rfl (zmi inU_12) 15 (by decide) (zm flRX12_116) rfl rfl (by decide +kernel) (by rfl) rfl (by show 15 < 21; decide) (upd (upd (G 92) 13 (nI (p + 1))) 15 (0 : Int32)) ((zd_10 E (rfl : zk 92 = 10) _).trans (rfl)) dX12_readsStatement_17 (fun H locs hP hS => ?_)
    have hP := zP_eq (g1_t _ _ _ _ : _ = (g1 G 92 (upd (upd (G 92) 13 (nI (p + 1))) 15 (0 : Int32)))) hP
    refine lv_iload_n hx hb dX12_readsStatement_20 rfl (lv_at hl 0 rfl) ?_
    by_cases e97_21 : (L p) = (97 : Int32)
    · skip
      refine lv_lookup (tgt := 96) (off := 75) hx hb dX12_readsStatement_21 (by decide) (by rw [e97_21]; rfl) (by decide) ?_
      have h0 : ¬ c_least (L p) = 0 := by rw [e97_21]; decide
      have h15 : ¬ L p = 115 := z_hne e97_21 (by decide)
      have hlm : c_least (L p) = 5 ∧ c_most (L p) = 5 := by rw [e97_21]; decide
      refine lv_aload_n hx hb dX12_readsStatement_96 rfl (lv_at hl 1 rfl) ?_
      refine lv_iconst (v := (5 : Int32)) hx hb dX12_readsStatement_97 (by decide) ?_
      refine z_Vi C0 hP hD hA hS (As := [.int (5 : Int32)]) (rest := []) (k := 92) (c_X12_readsDigits l E _ L K (p + 1) 0 ((g1_n (by decide)).trans (hL)) ((congrFun (g1_s _ _ _) _).trans ((pk_un (by decide)).trans ((pk_un (by decide)).trans (hK)))) ((congrFun (g1_s _ _ _) _).trans ((pk_un (by decide)).trans (pk_us))) ((congrFun (g1_s _ _ _) _).trans (pk_us)) hK96 (by omega) 5 (by omega)) (cwV 1 hts (zgV zbw mlRX12_126 imX12_readsDigits seX12_readsDigits iniRX12 coX12_readsDigits) rfl rfl rfl (by decide +kernel) ⟨Nat.le_of_ble_eq_true rfl, Nat.le_of_ble_eq_true rfl⟩) (zk_lt (rfl : zk 92 = 10) (by decide)) (zd_10 E (rfl : zk 92 = 10) _) rfl rfl rfl hl.1 rfl (Nat.le_of_ble_eq_true rfl) dX12_readsStatement_98 ⟨Nat.zero_le _, Nat.zero_le _⟩ (fun r2 G2 H locs hw2 hP hS => ?_)
      rcases hw2 with ⟨rfl, hD2⟩ | ⟨rfl, jj, hjj, hD2, hnd2⟩
      · skip
        have hF2 := hD2.2.2.1
        have hle2 := RDg_le hD2 (show p + 1 ≤ K by omega)
        refine lv_istore_n (lv' := [(2, .int (1 : Int32)), (1, .int (L p)), (0, .ref (E.1 92))]) hx hb dX12_readsStatement_101 rfl hl (by decide) rfl (fun ls hl => ?_)
        refine lv_goto (tgt := 143) hx hb dX12_readsStatement_102 (by decide) ?_
        refine lv_iload_n hx hb dX12_readsStatement_143 rfl (lv_at hl 0 rfl) ?_
        refine lv_if_eq (tgt := 156) hx hb dX12_readsStatement_144 (by decide) (fun h_ => absurd h_ (by decide)) (fun _ => ?_)
        refine lv_aload_n hx hb dX12_readsStatement_147 rfl (lv_at hl 2 rfl) ?_
        refine z_Vi C0 hP hD hA hS (As := []) (rest := []) (k := 92) (c_X12_here l E _ L K (p + 1 + 5) 5 ((hF2 _ (by decide)).trans ((g1_n (by decide)).trans (hL))) (((hD2.2.2.2.1 8 (by decide) (by decide)).trans ((congrFun (g1_s _ _ _) _).trans ((pk_un (by decide)).trans ((pk_un (by decide)).trans (hK)))))) (hD2.2.2.2.2.1) ((hD2.2.2.2.2.2.trans (congrArg nI (Nat.zero_add _)))) hK96 (by omega)) (cwV 0 hts (zgV zbw mlRX12_112 imX12_here seX12_here iniRX12 coX12_here) rfl rfl rfl (by decide +kernel) ⟨Nat.le_of_ble_eq_true rfl, Nat.le_of_ble_eq_true rfl⟩) (zk_lt (rfl : zk 92 = 10) (by decide)) (zd_10 E (rfl : zk 92 = 10) _) rfl rfl rfl hl.1 rfl (Nat.le_of_ble_eq_true rfl) dX12_readsStatement_148 ⟨Nat.zero_le _, Nat.zero_le _⟩ (fun r3 G3 H locs hw3 hP hS => ?_)
        rcases hw3 with ⟨hpk3, rfl, rfl⟩ | ⟨hpk3, rfl, rfl⟩
        · skip
          refine lv_bipush (v := (59 : Int32)) hx hb dX12_readsStatement_151 (by decide) ?_
          refine lv_icmp_eq (tgt := 158) hx hb dX12_readsStatement_153 (by decide) (fun c_153 => ?_) (fun c_153 => ?_)
          · skip
            refine lv_aload_n hx hb dX12_readsStatement_158 rfl (lv_at hl 2 rfl) ?_
            refine lv_dup hx hb dX12_readsStatement_159 rfl ?_
            refine z_get C0 hP (C := RX12) (T := TX12) (N := 21) (ci := 10) (index := 109) (k := 92) (ref := "WetSuitPedalsShoesModel") (zk_lt (rfl : zk 92 = 10) (by decide)) (zd_10 E (rfl : zk 92 = 10) _) rfl (zmi inU_12) 13 (by decide) (zm flRX12_109) rfl (v := .int (nI (p + 1 + 5))) (congrArg (fun z => some (Value.int z)) (hD2.2.2.2.2.1)) dX12_readsStatement_160 ?_
            refine lv_iconst (v := (1 : Int32)) hx hb dX12_readsStatement_163 (by decide) ?_
            refine z_iadd hx hb (a := p + 1 + 5) (b := 1) (n := (p + 1 + 5) + 1) dX12_readsStatement_164 rfl rfl rfl ?_
            refine z_put C0 hP hD hS (C := RX12) (T := TX12) (N := 21) (ci := 10) (index := 109) (k := 92) (ref := "WetSuitPedalsShoesModel") (F := G2 92) (ty := .int) (rfl) tyX12 tyX12_ok nmX12 (zk_lt (rfl : zk 92 = 10) (by decide)) (zd_10 E (rfl : zk 92 = 10) _) rfl (zmi inU_12) 13 (by decide) (zm flRX12_109) rfl rfl (by decide +kernel) (by rfl) rfl (by show 13 < 21; decide) (upd (G2 92) 13 (nI ((p + 1 + 5) + 1))) ((zd_10 E (rfl : zk 92 = 10) _).trans (rfl)) dX12_readsStatement_165 (fun H locs hP hS => ?_)
            refine lv_iconst (v := (1 : Int32)) hx hb dX12_readsStatement_168 (by decide) ?_
            subst hQ_
            exact z_zret C0 hP hS (v := (1 : Int32)) (by decide) (by exact Or.inl ⟨rfl, p + 1 + 5, by omega, gs_ok (gs_d h0 h15 (by omega) (fun i hi => (hD2.1 i hi).2.1)) (by omega) c_153, (fun k hk => (g1_n (by omega)).trans ((hF2 k (by omega)).trans (g1_n (by omega)))), (fun x a b => (congrFun (g1_s _ _ _) x).trans ((pk_un a).trans ((hD2.2.2.2.1 x a b).trans ((congrFun (g1_s _ _ _) x).trans ((pk_un b).trans (pk_un a)))))), ((congrFun (g1_s _ _ _) _).trans (pk_us)).trans (congrArg nI (by omega)), ((congrFun (g1_s _ _ _) _).trans ((pk_un (by decide)).trans ((hD2.2.2.2.2.2.trans (congrArg nI (Nat.zero_add _)))))).trans (congrArg nI (by omega)), (fun z => absurd z h15), (fun j hj _ => (congrFun (g1_n (by decide)) j).trans (RDg_n hD2 (by omega)))⟩) dX12_readsStatement_169
          · skip
            refine lv_iconst (v := (0 : Int32)) hx hb dX12_readsStatement_156 (by decide) ?_
            subst hQ_
            exact z_zret C0 hP hS (v := (0 : Int32)) (by decide) (by exact Or.inr ⟨rfl, p + 1 + 5, gs_x (gs_d h0 h15 (by omega) (fun i hi => (hD2.1 i hi).2.1)) (by have := RDg_le hD2 (by omega); omega) (fun h => nf_e (by first | (exfalso; omega) | exact c_153) (Or.inl (by omega))), (fun k hk => (hF2 k (by omega)).trans (g1_n (by omega))), (fun x a b => (hD2.2.2.2.1 x a b).trans ((congrFun (g1_s _ _ _) x).trans ((pk_un b).trans (pk_un a)))), (hD2.2.2.2.2.1).trans (congrArg nI (by omega))⟩) dX12_readsStatement_157
        · skip
          refine lv_bipush (v := (59 : Int32)) hx hb dX12_readsStatement_151 (by decide) ?_
          refine lv_icmp_eq (tgt := 158) hx hb dX12_readsStatement_153 (by decide) (fun h_ => absurd h_ (by decide)) (fun _ => ?_)
          refine lv_iconst (v := (0 : Int32)) hx hb dX12_readsStatement_156 (by decide) ?_
          subst hQ_
          exact z_zret C0 hP hS (v := (0 : Int32)) (by decide) (by exact Or.inr ⟨rfl, p + 1 + 5, gs_x (gs_d h0 h15 (by omega) (fun i hi => (hD2.1 i hi).2.1)) (by have := RDg_le hD2 (by omega); omega) (fun h => nf_e (by first | (exfalso; omega) | exact c_153) (Or.inl (by omega))), (fun k hk => (hF2 k (by omega)).trans (g1_n (by omega))), (fun x a b => (hD2.2.2.2.1 x a b).trans ((congrFun (g1_s _ _ _) x).trans ((pk_un b).trans (pk_un a)))), (hD2.2.2.2.2.1).trans (congrArg nI (by omega))⟩) dX12_readsStatement_157
      · skip
        have hF2 := hD2.2.2.1
        have hle2 := RDg_le hD2 (show p + 1 ≤ K by omega)
        refine lv_istore_n (lv' := [(2, .int (0 : Int32)), (1, .int (L p)), (0, .ref (E.1 92))]) hx hb dX12_readsStatement_101 rfl hl (by decide) rfl (fun ls hl => ?_)
        refine lv_goto (tgt := 143) hx hb dX12_readsStatement_102 (by decide) ?_
        refine lv_iload_n hx hb dX12_readsStatement_143 rfl (lv_at hl 0 rfl) ?_
        refine lv_if_eq (tgt := 156) hx hb dX12_readsStatement_144 (by decide) (fun _ => ?_) (fun h_ => absurd (by decide) h_)
        refine lv_iconst (v := (0 : Int32)) hx hb dX12_readsStatement_156 (by decide) ?_
        subst hQ_
        exact z_zret C0 hP hS (v := (0 : Int32)) (by decide) (by exact Or.inr ⟨rfl, p + 1 + jj, gs_x (gs_d h0 h15 (by omega) (fun i hi => (hD2.1 i hi).2.1)) (by have := RDg_le hD2 (by omega); omega) (fun h => nf_d (by omega) (Or.inl h15) (fun q => hnd2 ⟨by omega, q⟩)), (fun k hk => (hF2 k (by omega)).trans (g1_n (by omega))), (fun x a b => (hD2.2.2.2.1 x a b).trans ((congrFun (g1_s _ _ _) x).trans ((pk_un b).trans (pk_un a)))), (hD2.2.2.2.2.1).trans (congrArg nI (by omega))⟩) dX12_readsStatement_157
    · skip
      by_cases e112_21 : (L p) = (112 : Int32)
      · skip
        refine lv_lookup (tgt := 114) (off := 93) hx hb dX12_readsStatement_21 (by decide) (by rw [e112_21]; rfl) (by decide) ?_
        have h0 : ¬ c_least (L p) = 0 := by rw [e112_21]; decide
        have h15 : ¬ L p = 115 := z_hne e112_21 (by decide)
        have hlm : c_least (L p) = 2 ∧ c_most (L p) = 10 := by rw [e112_21]; decide
        refine lv_aload_n hx hb dX12_readsStatement_114 rfl (lv_at hl 1 rfl) ?_
        refine z_Vi C0 hP hD hA hS (As := []) (rest := []) (k := 92) (c_X12_readsPlan l E _ L K (p + 1) 0 ((g1_n (by decide)).trans (hL)) ((congrFun (g1_s _ _ _) _).trans ((pk_un (by decide)).trans ((pk_un (by decide)).trans (hK)))) ((congrFun (g1_s _ _ _) _).trans ((pk_un (by decide)).trans (pk_us))) ((congrFun (g1_s _ _ _) _).trans (pk_us)) hK96 (by omega) rfl) (cwV 0 hts (zgV zbw mlRX12_133 imX12_readsPlan seX12_readsPlan iniRX12 coX12_readsPlan) rfl rfl rfl (by decide +kernel) ⟨Nat.le_of_ble_eq_true rfl, Nat.le_of_ble_eq_true rfl⟩) (zk_lt (rfl : zk 92 = 10) (by decide)) (zd_10 E (rfl : zk 92 = 10) _) rfl rfl rfl hl.1 rfl (Nat.le_of_ble_eq_true rfl) dX12_readsStatement_115 ⟨Nat.zero_le _, Nat.zero_le _⟩ (fun r4 G4 H locs hw4 hP hS => ?_)
        rcases hw4 with ⟨rfl, jj, hj2, hj10, hD4, hne4⟩ | ⟨rfl, jj, hjj, hD4, hnd4⟩
        · skip
          have hF4 := hD4.2.2.1
          have hle4 := RDg_le hD4 (show p + 1 ≤ K by omega)
          refine lv_istore_n (lv' := [(2, .int (1 : Int32)), (1, .int (L p)), (0, .ref (E.1 92))]) hx hb dX12_readsStatement_118 rfl hl (by decide) rfl (fun ls hl => ?_)
          refine lv_goto (tgt := 143) hx hb dX12_readsStatement_119 (by decide) ?_
          refine lv_iload_n hx hb dX12_readsStatement_143 rfl (lv_at hl 0 rfl) ?_
          refine lv_if_eq (tgt := 156) hx hb dX12_readsStatement_144 (by decide) (fun h_ => absurd h_ (by decide)) (fun _ => ?_)
          refine lv_aload_n hx hb dX12_readsStatement_147 rfl (lv_at hl 2 rfl) ?_
          refine z_Vi C0 hP hD hA hS (As := []) (rest := []) (k := 92) (c_X12_here l E _ L K (p + 1 + jj) jj ((hF4 _ (by decide)).trans ((g1_n (by decide)).trans (hL))) (((hD4.2.2.2.1 8 (by decide) (by decide)).trans ((congrFun (g1_s _ _ _) _).trans ((pk_un (by decide)).trans ((pk_un (by decide)).trans (hK)))))) (hD4.2.2.2.2.1) ((hD4.2.2.2.2.2.trans (congrArg nI (Nat.zero_add _)))) hK96 (by omega)) (cwV 0 hts (zgV zbw mlRX12_112 imX12_here seX12_here iniRX12 coX12_here) rfl rfl rfl (by decide +kernel) ⟨Nat.le_of_ble_eq_true rfl, Nat.le_of_ble_eq_true rfl⟩) (zk_lt (rfl : zk 92 = 10) (by decide)) (zd_10 E (rfl : zk 92 = 10) _) rfl rfl rfl hl.1 rfl (Nat.le_of_ble_eq_true rfl) dX12_readsStatement_148 ⟨Nat.zero_le _, Nat.zero_le _⟩ (fun r5 G5 H locs hw5 hP hS => ?_)
          rcases hw5 with ⟨hpk5, rfl, rfl⟩ | ⟨hpk5, rfl, rfl⟩
          · skip
            refine lv_bipush (v := (59 : Int32)) hx hb dX12_readsStatement_151 (by decide) ?_
            refine lv_icmp_eq (tgt := 158) hx hb dX12_readsStatement_153 (by decide) (fun c_153 => ?_) (fun c_153 => ?_)
            · skip
              refine lv_aload_n hx hb dX12_readsStatement_158 rfl (lv_at hl 2 rfl) ?_
              refine lv_dup hx hb dX12_readsStatement_159 rfl ?_
              refine z_get C0 hP (C := RX12) (T := TX12) (N := 21) (ci := 10) (index := 109) (k := 92) (ref := "WetSuitPedalsShoesModel") (zk_lt (rfl : zk 92 = 10) (by decide)) (zd_10 E (rfl : zk 92 = 10) _) rfl (zmi inU_12) 13 (by decide) (zm flRX12_109) rfl (v := .int (nI (p + 1 + jj))) (congrArg (fun z => some (Value.int z)) (hD4.2.2.2.2.1)) dX12_readsStatement_160 ?_
              refine lv_iconst (v := (1 : Int32)) hx hb dX12_readsStatement_163 (by decide) ?_
              refine z_iadd hx hb (a := p + 1 + jj) (b := 1) (n := (p + 1 + jj) + 1) dX12_readsStatement_164 rfl rfl rfl ?_
              refine z_put C0 hP hD hS (C := RX12) (T := TX12) (N := 21) (ci := 10) (index := 109) (k := 92) (ref := "WetSuitPedalsShoesModel") (F := G4 92) (ty := .int) (rfl) tyX12 tyX12_ok nmX12 (zk_lt (rfl : zk 92 = 10) (by decide)) (zd_10 E (rfl : zk 92 = 10) _) rfl (zmi inU_12) 13 (by decide) (zm flRX12_109) rfl rfl (by decide +kernel) (by rfl) rfl (by show 13 < 21; decide) (upd (G4 92) 13 (nI ((p + 1 + jj) + 1))) ((zd_10 E (rfl : zk 92 = 10) _).trans (rfl)) dX12_readsStatement_165 (fun H locs hP hS => ?_)
              refine lv_iconst (v := (1 : Int32)) hx hb dX12_readsStatement_168 (by decide) ?_
              subst hQ_
              exact z_zret C0 hP hS (v := (1 : Int32)) (by decide) (by exact Or.inl ⟨rfl, p + 1 + jj, by omega, gs_ok (gs_d h0 h15 (by omega) (fun i hi => (hD4.1 i hi).2.1)) (by omega) c_153, (fun k hk => (g1_n (by omega)).trans ((hF4 k (by omega)).trans (g1_n (by omega)))), (fun x a b => (congrFun (g1_s _ _ _) x).trans ((pk_un a).trans ((hD4.2.2.2.1 x a b).trans ((congrFun (g1_s _ _ _) x).trans ((pk_un b).trans (pk_un a)))))), ((congrFun (g1_s _ _ _) _).trans (pk_us)).trans (congrArg nI (by omega)), ((congrFun (g1_s _ _ _) _).trans ((pk_un (by decide)).trans ((hD4.2.2.2.2.2.trans (congrArg nI (Nat.zero_add _)))))).trans (congrArg nI (by omega)), (fun z => absurd z h15), (fun j hj _ => (congrFun (g1_n (by decide)) j).trans (RDg_n hD4 (by omega)))⟩) dX12_readsStatement_169
            · skip
              refine lv_iconst (v := (0 : Int32)) hx hb dX12_readsStatement_156 (by decide) ?_
              subst hQ_
              exact z_zret C0 hP hS (v := (0 : Int32)) (by decide) (by exact Or.inr ⟨rfl, p + 1 + jj, gs_x (gs_d h0 h15 (by omega) (fun i hi => (hD4.1 i hi).2.1)) (by have := RDg_le hD4 (by omega); omega) (fun h => nf_e (by first | (exfalso; omega) | exact c_153) (((show jj = 10 ∨ jj < 10 by omega).elim (fun z => Or.inl (by omega)) (fun z => Or.inr ⟨fun q => hne4 z ⟨by omega, q⟩, Or.inl h15⟩)))), (fun k hk => (hF4 k (by omega)).trans (g1_n (by omega))), (fun x a b => (hD4.2.2.2.1 x a b).trans ((congrFun (g1_s _ _ _) x).trans ((pk_un b).trans (pk_un a)))), (hD4.2.2.2.2.1).trans (congrArg nI (by omega))⟩) dX12_readsStatement_157
          · skip
            refine lv_bipush (v := (59 : Int32)) hx hb dX12_readsStatement_151 (by decide) ?_
            refine lv_icmp_eq (tgt := 158) hx hb dX12_readsStatement_153 (by decide) (fun h_ => absurd h_ (by decide)) (fun _ => ?_)
            refine lv_iconst (v := (0 : Int32)) hx hb dX12_readsStatement_156 (by decide) ?_
            subst hQ_
            exact z_zret C0 hP hS (v := (0 : Int32)) (by decide) (by exact Or.inr ⟨rfl, p + 1 + jj, gs_x (gs_d h0 h15 (by omega) (fun i hi => (hD4.1 i hi).2.1)) (by have := RDg_le hD4 (by omega); omega) (fun h => nf_e (by first | (exfalso; omega) | exact c_153) (((show jj = 10 ∨ jj < 10 by omega).elim (fun z => Or.inl (by omega)) (fun z => Or.inr ⟨fun q => hne4 z ⟨by omega, q⟩, Or.inl h15⟩)))), (fun k hk => (hF4 k (by omega)).trans (g1_n (by omega))), (fun x a b => (hD4.2.2.2.1 x a b).trans ((congrFun (g1_s _ _ _) x).trans ((pk_un b).trans (pk_un a)))), (hD4.2.2.2.2.1).trans (congrArg nI (by omega))⟩) dX12_readsStatement_157
        · skip
          have hF4 := hD4.2.2.1
          have hle4 := RDg_le hD4 (show p + 1 ≤ K by omega)
          refine lv_istore_n (lv' := [(2, .int (0 : Int32)), (1, .int (L p)), (0, .ref (E.1 92))]) hx hb dX12_readsStatement_118 rfl hl (by decide) rfl (fun ls hl => ?_)
          refine lv_goto (tgt := 143) hx hb dX12_readsStatement_119 (by decide) ?_
          refine lv_iload_n hx hb dX12_readsStatement_143 rfl (lv_at hl 0 rfl) ?_
          refine lv_if_eq (tgt := 156) hx hb dX12_readsStatement_144 (by decide) (fun _ => ?_) (fun h_ => absurd (by decide) h_)
          refine lv_iconst (v := (0 : Int32)) hx hb dX12_readsStatement_156 (by decide) ?_
          subst hQ_
          exact z_zret C0 hP hS (v := (0 : Int32)) (by decide) (by exact Or.inr ⟨rfl, p + 1 + jj, gs_x (gs_d h0 h15 (by omega) (fun i hi => (hD4.1 i hi).2.1)) (by have := RDg_le hD4 (by omega); omega) (fun h => nf_d (by omega) (Or.inl h15) (fun q => hnd4 ⟨by omega, q⟩)), (fun k hk => (hF4 k (by omega)).trans (g1_n (by omega))), (fun x a b => (hD4.2.2.2.1 x a b).trans ((congrFun (g1_s _ _ _) x).trans ((pk_un b).trans (pk_un a)))), (hD4.2.2.2.2.1).trans (congrArg nI (by omega))⟩) dX12_readsStatement_157
      · skip
        by_cases e115_21 : (L p) = (115 : Int32)
        · skip
          refine lv_lookup (tgt := 72) (off := 51) hx hb dX12_readsStatement_21 (by decide) (by rw [e115_21]; rfl) (by decide) ?_
          have h0 : ¬ c_least (L p) = 0 := by rw [e115_21]; decide
          have hlm : c_least (L p) = 3 ∧ c_most (L p) = 3 := by rw [e115_21]; decide
          refine lv_aload_n hx hb dX12_readsStatement_72 rfl (lv_at hl 1 rfl) ?_
          refine z_Vi C0 hP hD hA hS (As := []) (rest := []) (k := 92) (c_X12_readsKind l E _ L K (p + 1) 0 ((g1_n (by decide)).trans (hL)) ((congrFun (g1_s _ _ _) _).trans ((pk_un (by decide)).trans ((pk_un (by decide)).trans (hK)))) ((congrFun (g1_s _ _ _) _).trans ((pk_un (by decide)).trans (pk_us))) ((congrFun (g1_s _ _ _) _).trans (pk_us)) hK96 (by omega)) (cwV 0 hts (zgV zbw mlRX12_130 imX12_readsKind seX12_readsKind iniRX12 coX12_readsKind) rfl rfl rfl (by decide +kernel) ⟨Nat.le_of_ble_eq_true rfl, Nat.le_of_ble_eq_true rfl⟩) (zk_lt (rfl : zk 92 = 10) (by decide)) (zd_10 E (rfl : zk 92 = 10) _) rfl rfl rfl hl.1 rfl (Nat.le_of_ble_eq_true rfl) dX12_readsStatement_73 ⟨Nat.zero_le _, Nat.zero_le _⟩ (fun r6 G6 H locs hw6 hP hS => ?_)
          rcases hw6 with ⟨rfl, hpk6, hkd6, hF6, hr96, h136, h156, hnm6⟩ | ⟨rfl, rfl, hnk⟩
          · skip
            refine lv_if_eq (tgt := 91) hx hb dX12_readsStatement_76 (by decide) (fun h_ => absurd h_ (by decide)) (fun _ => ?_)
            refine lv_aload_n hx hb dX12_readsStatement_79 rfl (lv_at hl 1 rfl) ?_
            refine lv_iconst (v := (2 : Int32)) hx hb dX12_readsStatement_80 (by decide) ?_
            refine z_Vi C0 hP hD hA hS (As := [.int (2 : Int32)]) (rest := []) (k := 92) (c_X12_readsDigits l E _ L K (p + 1 + 1) 1 ((hF6 _ (by decide)).trans ((g1_n (by decide)).trans (hL))) (((hr96 8 (by decide) (by decide))).trans ((congrFun (g1_s _ _ _) _).trans ((pk_un (by decide)).trans ((pk_un (by decide)).trans (hK))))) (h136) (h156) hK96 (by omega) 2 (by omega)) (cwV 1 hts (zgV zbw mlRX12_126 imX12_readsDigits seX12_readsDigits iniRX12 coX12_readsDigits) rfl rfl rfl (by decide +kernel) ⟨Nat.le_of_ble_eq_true rfl, Nat.le_of_ble_eq_true rfl⟩) (zk_lt (rfl : zk 92 = 10) (by decide)) (zd_10 E (rfl : zk 92 = 10) _) rfl rfl rfl hl.1 rfl (Nat.le_of_ble_eq_true rfl) dX12_readsStatement_81 ⟨Nat.zero_le _, Nat.zero_le _⟩ (fun r7 G7 H locs hw7 hP hS => ?_)
            rcases hw7 with ⟨rfl, hD7⟩ | ⟨rfl, jj, hjj, hD7, hnd7⟩
            · skip
              have hF7 := hD7.2.2.1
              have hle7 := RDg_le hD7 (show p + 1 + 1 ≤ K by omega)
              refine lv_if_eq (tgt := 91) hx hb dX12_readsStatement_84 (by decide) (fun h_ => absurd h_ (by decide)) (fun _ => ?_)
              refine lv_iconst (v := (1 : Int32)) hx hb dX12_readsStatement_87 (by decide) ?_
              refine lv_goto (tgt := 92) hx hb dX12_readsStatement_88 (by decide) ?_
              refine lv_istore_n (lv' := [(2, .int (1 : Int32)), (1, .int (L p)), (0, .ref (E.1 92))]) hx hb dX12_readsStatement_92 rfl hl (by decide) rfl (fun ls hl => ?_)
              refine lv_goto (tgt := 143) hx hb dX12_readsStatement_93 (by decide) ?_
              refine lv_iload_n hx hb dX12_readsStatement_143 rfl (lv_at hl 0 rfl) ?_
              refine lv_if_eq (tgt := 156) hx hb dX12_readsStatement_144 (by decide) (fun h_ => absurd h_ (by decide)) (fun _ => ?_)
              refine lv_aload_n hx hb dX12_readsStatement_147 rfl (lv_at hl 2 rfl) ?_
              refine z_Vi C0 hP hD hA hS (As := []) (rest := []) (k := 92) (c_X12_here l E _ L K (p + 1 + 1 + 2) (1 + 2) ((hF7 _ (by decide)).trans ((hF6 _ (by decide)).trans ((g1_n (by decide)).trans (hL)))) (((hD7.2.2.2.1 8 (by decide) (by decide)).trans (((hr96 8 (by decide) (by decide))).trans ((congrFun (g1_s _ _ _) _).trans ((pk_un (by decide)).trans ((pk_un (by decide)).trans (hK))))))) (hD7.2.2.2.2.1) (hD7.2.2.2.2.2) hK96 (by omega)) (cwV 0 hts (zgV zbw mlRX12_112 imX12_here seX12_here iniRX12 coX12_here) rfl rfl rfl (by decide +kernel) ⟨Nat.le_of_ble_eq_true rfl, Nat.le_of_ble_eq_true rfl⟩) (zk_lt (rfl : zk 92 = 10) (by decide)) (zd_10 E (rfl : zk 92 = 10) _) rfl rfl rfl hl.1 rfl (Nat.le_of_ble_eq_true rfl) dX12_readsStatement_148 ⟨Nat.zero_le _, Nat.zero_le _⟩ (fun r8 G8 H locs hw8 hP hS => ?_)
              rcases hw8 with ⟨hpk8, rfl, rfl⟩ | ⟨hpk8, rfl, rfl⟩
              · skip
                refine lv_bipush (v := (59 : Int32)) hx hb dX12_readsStatement_151 (by decide) ?_
                refine lv_icmp_eq (tgt := 158) hx hb dX12_readsStatement_153 (by decide) (fun c_153 => ?_) (fun c_153 => ?_)
                · skip
                  refine lv_aload_n hx hb dX12_readsStatement_158 rfl (lv_at hl 2 rfl) ?_
                  refine lv_dup hx hb dX12_readsStatement_159 rfl ?_
                  refine z_get C0 hP (C := RX12) (T := TX12) (N := 21) (ci := 10) (index := 109) (k := 92) (ref := "WetSuitPedalsShoesModel") (zk_lt (rfl : zk 92 = 10) (by decide)) (zd_10 E (rfl : zk 92 = 10) _) rfl (zmi inU_12) 13 (by decide) (zm flRX12_109) rfl (v := .int (nI (p + 1 + 1 + 2))) (congrArg (fun z => some (Value.int z)) (hD7.2.2.2.2.1)) dX12_readsStatement_160 ?_
                  refine lv_iconst (v := (1 : Int32)) hx hb dX12_readsStatement_163 (by decide) ?_
                  refine z_iadd hx hb (a := p + 1 + 1 + 2) (b := 1) (n := (p + 1 + 1 + 2) + 1) dX12_readsStatement_164 rfl rfl rfl ?_
                  refine z_put C0 hP hD hS (C := RX12) (T := TX12) (N := 21) (ci := 10) (index := 109) (k := 92) (ref := "WetSuitPedalsShoesModel") (F := G7 92) (ty := .int) (rfl) tyX12 tyX12_ok nmX12 (zk_lt (rfl : zk 92 = 10) (by decide)) (zd_10 E (rfl : zk 92 = 10) _) rfl (zmi inU_12) 13 (by decide) (zm flRX12_109) rfl rfl (by decide +kernel) (by rfl) rfl (by show 13 < 21; decide) (upd (G7 92) 13 (nI ((p + 1 + 1 + 2) + 1))) ((zd_10 E (rfl : zk 92 = 10) _).trans (rfl)) dX12_readsStatement_165 (fun H locs hP hS => ?_)
                  refine lv_iconst (v := (1 : Int32)) hx hb dX12_readsStatement_168 (by decide) ?_
                  subst hQ_
                  exact z_zret C0 hP hS (v := (1 : Int32)) (by decide) (by exact Or.inl ⟨rfl, p + 1 + (1 + 2), by omega, gs_ok (gs_s e115_21 hkd6 (by omega) (fun i hi => (hD7.1 i hi).2.1)) (by omega) c_153, (fun k hk => (g1_n (by omega)).trans ((hF7 k (by omega)).trans ((hF6 k (by omega)).trans (g1_n (by omega))))), (fun x a b => (congrFun (g1_s _ _ _) x).trans ((pk_un a).trans ((hD7.2.2.2.1 x a b).trans ((hr96 x a b).trans ((congrFun (g1_s _ _ _) x).trans ((pk_un b).trans (pk_un a))))))), ((congrFun (g1_s _ _ _) _).trans (pk_us)).trans (congrArg nI (by omega)), ((congrFun (g1_s _ _ _) _).trans ((pk_un (by decide)).trans (hD7.2.2.2.2.2))).trans (congrArg nI (by omega)), (fun _ => (congrFun (g1_n (by decide)) 0).trans ((hD7.2.1 0 (by decide)).trans ((congrFun hnm6 0).trans pk_us))), (fun j hj hz => (congrFun (g1_n (by decide)) j).trans (RDg_s hD7 (hz e115_21) (by omega)))⟩) dX12_readsStatement_169
                · skip
                  refine lv_iconst (v := (0 : Int32)) hx hb dX12_readsStatement_156 (by decide) ?_
                  subst hQ_
                  exact z_zret C0 hP hS (v := (0 : Int32)) (by decide) (by exact Or.inr ⟨rfl, p + 1 + (1 + 2), gs_x (gs_s e115_21 hkd6 (by omega) (fun i hi => (hD7.1 i hi).2.1)) (by have := RDg_le hD7 (by omega); omega) (fun h => nf_e (by first | (exfalso; omega) | exact c_153) (Or.inl (by omega))), (fun k hk => (hF7 k (by omega)).trans ((hF6 k (by omega)).trans (g1_n (by omega)))), (fun x a b => (hD7.2.2.2.1 x a b).trans ((hr96 x a b).trans ((congrFun (g1_s _ _ _) x).trans ((pk_un b).trans (pk_un a))))), (hD7.2.2.2.2.1).trans (congrArg nI (by omega))⟩) dX12_readsStatement_157
              · skip
                refine lv_bipush (v := (59 : Int32)) hx hb dX12_readsStatement_151 (by decide) ?_
                refine lv_icmp_eq (tgt := 158) hx hb dX12_readsStatement_153 (by decide) (fun h_ => absurd h_ (by decide)) (fun _ => ?_)
                refine lv_iconst (v := (0 : Int32)) hx hb dX12_readsStatement_156 (by decide) ?_
                subst hQ_
                exact z_zret C0 hP hS (v := (0 : Int32)) (by decide) (by exact Or.inr ⟨rfl, p + 1 + (1 + 2), gs_x (gs_s e115_21 hkd6 (by omega) (fun i hi => (hD7.1 i hi).2.1)) (by have := RDg_le hD7 (by omega); omega) (fun h => nf_e (by first | (exfalso; omega) | exact c_153) (Or.inl (by omega))), (fun k hk => (hF7 k (by omega)).trans ((hF6 k (by omega)).trans (g1_n (by omega)))), (fun x a b => (hD7.2.2.2.1 x a b).trans ((hr96 x a b).trans ((congrFun (g1_s _ _ _) x).trans ((pk_un b).trans (pk_un a))))), (hD7.2.2.2.2.1).trans (congrArg nI (by omega))⟩) dX12_readsStatement_157
            · skip
              have hF7 := hD7.2.2.1
              have hle7 := RDg_le hD7 (show p + 1 + 1 ≤ K by omega)
              refine lv_if_eq (tgt := 91) hx hb dX12_readsStatement_84 (by decide) (fun _ => ?_) (fun h_ => absurd (by decide) h_)
              refine lv_iconst (v := (0 : Int32)) hx hb dX12_readsStatement_91 (by decide) ?_
              refine lv_istore_n (lv' := [(2, .int (0 : Int32)), (1, .int (L p)), (0, .ref (E.1 92))]) hx hb dX12_readsStatement_92 rfl hl (by decide) rfl (fun ls hl => ?_)
              refine lv_goto (tgt := 143) hx hb dX12_readsStatement_93 (by decide) ?_
              refine lv_iload_n hx hb dX12_readsStatement_143 rfl (lv_at hl 0 rfl) ?_
              refine lv_if_eq (tgt := 156) hx hb dX12_readsStatement_144 (by decide) (fun _ => ?_) (fun h_ => absurd (by decide) h_)
              refine lv_iconst (v := (0 : Int32)) hx hb dX12_readsStatement_156 (by decide) ?_
              subst hQ_
              exact z_zret C0 hP hS (v := (0 : Int32)) (by decide) (by exact Or.inr ⟨rfl, p + 1 + (1 + jj), gs_x (gs_s e115_21 hkd6 (by omega) (fun i hi => (hD7.1 i hi).2.1)) (by have := RDg_le hD7 (by omega); omega) (fun h => nf_d (by omega) (Or.inr (by omega)) (fun q => hnd7 ⟨by omega, by rw [show p + 1 + 1 + jj = p + 1 + (1 + jj) by omega]; exact q⟩)), (fun k hk => (hF7 k (by omega)).trans ((hF6 k (by omega)).trans (g1_n (by omega)))), (fun x a b => (hD7.2.2.2.1 x a b).trans ((hr96 x a b).trans ((congrFun (g1_s _ _ _) x).trans ((pk_un b).trans (pk_un a))))), (hD7.2.2.2.2.1).trans (congrArg nI (by omega))⟩) dX12_readsStatement_157
          · skip
            refine lv_if_eq (tgt := 91) hx hb dX12_readsStatement_76 (by decide) (fun _ => ?_) (fun h_ => absurd (by decide) h_)
            refine lv_iconst (v := (0 : Int32)) hx hb dX12_readsStatement_91 (by decide) ?_
            refine lv_istore_n (lv' := [(2, .int (0 : Int32)), (1, .int (L p)), (0, .ref (E.1 92))]) hx hb dX12_readsStatement_92 rfl hl (by decide) rfl (fun ls hl => ?_)
            refine lv_goto (tgt := 143) hx hb dX12_readsStatement_93 (by decide) ?_
            refine lv_iload_n hx hb dX12_readsStatement_143 rfl (lv_at hl 0 rfl) ?_
            refine lv_if_eq (tgt := 156) hx hb dX12_readsStatement_144 (by decide) (fun _ => ?_) (fun h_ => absurd (by decide) h_)
            refine lv_iconst (v := (0 : Int32)) hx hb dX12_readsStatement_156 (by decide) ?_
            subst hQ_
            exact z_zret C0 hP hS (v := (0 : Int32)) (by decide) (by exact Or.inr ⟨rfl, p + 1 + 0, gs_x (gs_0 h0) (by omega) (fun h => by rw [e115_21]; exact nf_k (Classical.not_not.mp (fun z => hnk ⟨by omega, z⟩))), (fun k hk => g1_n (by omega)), (fun x a b => (congrFun (g1_s _ _ _) x).trans ((pk_un b).trans (pk_un a))), ((congrFun (g1_s _ _ _) _).trans ((pk_un (by decide)).trans (pk_us))).trans (congrArg nI (by omega))⟩) dX12_readsStatement_157
        · skip
          by_cases e116_21 : (L p) = (116 : Int32)
          · skip
            refine lv_lookup (tgt := 105) (off := 84) hx hb dX12_readsStatement_21 (by decide) (by rw [e116_21]; rfl) (by decide) ?_
            have h0 : ¬ c_least (L p) = 0 := by rw [e116_21]; decide
            have h15 : ¬ L p = 115 := z_hne e116_21 (by decide)
            have hlm : c_least (L p) = 3 ∧ c_most (L p) = 3 := by rw [e116_21]; decide
            refine lv_aload_n hx hb dX12_readsStatement_105 rfl (lv_at hl 1 rfl) ?_
            refine lv_iconst (v := (3 : Int32)) hx hb dX12_readsStatement_106 (by decide) ?_
            refine z_Vi C0 hP hD hA hS (As := [.int (3 : Int32)]) (rest := []) (k := 92) (c_X12_readsDigits l E _ L K (p + 1) 0 ((g1_n (by decide)).trans (hL)) ((congrFun (g1_s _ _ _) _).trans ((pk_un (by decide)).trans ((pk_un (by decide)).trans (hK)))) ((congrFun (g1_s _ _ _) _).trans ((pk_un (by decide)).trans (pk_us))) ((congrFun (g1_s _ _ _) _).trans (pk_us)) hK96 (by omega) 3 (by omega)) (cwV 1 hts (zgV zbw mlRX12_126 imX12_readsDigits seX12_readsDigits iniRX12 coX12_readsDigits) rfl rfl rfl (by decide +kernel) ⟨Nat.le_of_ble_eq_true rfl, Nat.le_of_ble_eq_true rfl⟩) (zk_lt (rfl : zk 92 = 10) (by decide)) (zd_10 E (rfl : zk 92 = 10) _) rfl rfl rfl hl.1 rfl (Nat.le_of_ble_eq_true rfl) dX12_readsStatement_107 ⟨Nat.zero_le _, Nat.zero_le _⟩ (fun r9 G9 H locs hw9 hP hS => ?_)
            rcases hw9 with ⟨rfl, hD9⟩ | ⟨rfl, jj, hjj, hD9, hnd9⟩
            · skip
              have hF9 := hD9.2.2.1
              have hle9 := RDg_le hD9 (show p + 1 ≤ K by omega)
              refine lv_istore_n (lv' := [(2, .int (1 : Int32)), (1, .int (L p)), (0, .ref (E.1 92))]) hx hb dX12_readsStatement_110 rfl hl (by decide) rfl (fun ls hl => ?_)
              refine lv_goto (tgt := 143) hx hb dX12_readsStatement_111 (by decide) ?_
              refine lv_iload_n hx hb dX12_readsStatement_143 rfl (lv_at hl 0 rfl) ?_
              refine lv_if_eq (tgt := 156) hx hb dX12_readsStatement_144 (by decide) (fun h_ => absurd h_ (by decide)) (fun _ => ?_)
              refine lv_aload_n hx hb dX12_readsStatement_147 rfl (lv_at hl 2 rfl) ?_
              refine z_Vi C0 hP hD hA hS (As := []) (rest := []) (k := 92) (c_X12_here l E _ L K (p + 1 + 3) 3 ((hF9 _ (by decide)).trans ((g1_n (by decide)).trans (hL))) (((hD9.2.2.2.1 8 (by decide) (by decide)).trans ((congrFun (g1_s _ _ _) _).trans ((pk_un (by decide)).trans ((pk_un (by decide)).trans (hK)))))) (hD9.2.2.2.2.1) ((hD9.2.2.2.2.2.trans (congrArg nI (Nat.zero_add _)))) hK96 (by omega)) (cwV 0 hts (zgV zbw mlRX12_112 imX12_here seX12_here iniRX12 coX12_here) rfl rfl rfl (by decide +kernel) ⟨Nat.le_of_ble_eq_true rfl, Nat.le_of_ble_eq_true rfl⟩) (zk_lt (rfl : zk 92 = 10) (by decide)) (zd_10 E (rfl : zk 92 = 10) _) rfl rfl rfl hl.1 rfl (Nat.le_of_ble_eq_true rfl) dX12_readsStatement_148 ⟨Nat.zero_le _, Nat.zero_le _⟩ (fun r10 G10 H locs hw10 hP hS => ?_)
              rcases hw10 with ⟨hpk10, rfl, rfl⟩ | ⟨hpk10, rfl, rfl⟩
              · skip
                refine lv_bipush (v := (59 : Int32)) hx hb dX12_readsStatement_151 (by decide) ?_
                refine lv_icmp_eq (tgt := 158) hx hb dX12_readsStatement_153 (by decide) (fun c_153 => ?_) (fun c_153 => ?_)
                · skip
                  refine lv_aload_n hx hb dX12_readsStatement_158 rfl (lv_at hl 2 rfl) ?_
                  refine lv_dup hx hb dX12_readsStatement_159 rfl ?_
                  refine z_get C0 hP (C := RX12) (T := TX12) (N := 21) (ci := 10) (index := 109) (k := 92) (ref := "WetSuitPedalsShoesModel") (zk_lt (rfl : zk 92 = 10) (by decide)) (zd_10 E (rfl : zk 92 = 10) _) rfl (zmi inU_12) 13 (by decide) (zm flRX12_109) rfl (v := .int (nI (p + 1 + 3))) (congrArg (fun z => some (Value.int z)) (hD9.2.2.2.2.1)) dX12_readsStatement_160 ?_
                  refine lv_iconst (v := (1 : Int32)) hx hb dX12_readsStatement_163 (by decide) ?_
                  refine z_iadd hx hb (a := p + 1 + 3) (b := 1) (n := (p + 1 + 3) + 1) dX12_readsStatement_164 rfl rfl rfl ?_
                  refine z_put C0 hP hD hS (C := RX12) (T := TX12) (N := 21) (ci := 10) (index := 109) (k := 92) (ref := "WetSuitPedalsShoesModel") (F := G9 92) (ty := .int) (rfl) tyX12 tyX12_ok nmX12 (zk_lt (rfl : zk 92 = 10) (by decide)) (zd_10 E (rfl : zk 92 = 10) _) rfl (zmi inU_12) 13 (by decide) (zm flRX12_109) rfl rfl (by decide +kernel) (by rfl) rfl (by show 13 < 21; decide) (upd (G9 92) 13 (nI ((p + 1 + 3) + 1))) ((zd_10 E (rfl : zk 92 = 10) _).trans (rfl)) dX12_readsStatement_165 (fun H locs hP hS => ?_)
                  refine lv_iconst (v := (1 : Int32)) hx hb dX12_readsStatement_168 (by decide) ?_
                  subst hQ_
                  exact z_zret C0 hP hS (v := (1 : Int32)) (by decide) (by exact Or.inl ⟨rfl, p + 1 + 3, by omega, gs_ok (gs_d h0 h15 (by omega) (fun i hi => (hD9.1 i hi).2.1)) (by omega) c_153, (fun k hk => (g1_n (by omega)).trans ((hF9 k (by omega)).trans (g1_n (by omega)))), (fun x a b => (congrFun (g1_s _ _ _) x).trans ((pk_un a).trans ((hD9.2.2.2.1 x a b).trans ((congrFun (g1_s _ _ _) x).trans ((pk_un b).trans (pk_un a)))))), ((congrFun (g1_s _ _ _) _).trans (pk_us)).trans (congrArg nI (by omega)), ((congrFun (g1_s _ _ _) _).trans ((pk_un (by decide)).trans ((hD9.2.2.2.2.2.trans (congrArg nI (Nat.zero_add _)))))).trans (congrArg nI (by omega)), (fun z => absurd z h15), (fun j hj _ => (congrFun (g1_n (by decide)) j).trans (RDg_n hD9 (by omega)))⟩) dX12_readsStatement_169
                · skip
                  refine lv_iconst (v := (0 : Int32)) hx hb dX12_readsStatement_156 (by decide) ?_
                  subst hQ_
                  exact z_zret C0 hP hS (v := (0 : Int32)) (by decide) (by exact Or.inr ⟨rfl, p + 1 + 3, gs_x (gs_d h0 h15 (by omega) (fun i hi => (hD9.1 i hi).2.1)) (by have := RDg_le hD9 (by omega); omega) (fun h => nf_e (by first | (exfalso; omega) | exact c_153) (Or.inl (by omega))), (fun k hk => (hF9 k (by omega)).trans (g1_n (by omega))), (fun x a b => (hD9.2.2.2.1 x a b).trans ((congrFun (g1_s _ _ _) x).trans ((pk_un b).trans (pk_un a)))), (hD9.2.2.2.2.1).trans (congrArg nI (by omega))⟩) dX12_readsStatement_157
              · skip
                refine lv_bipush (v := (59 : Int32)) hx hb dX12_readsStatement_151 (by decide) ?_
                refine lv_icmp_eq (tgt := 158) hx hb dX12_readsStatement_153 (by decide) (fun h_ => absurd h_ (by decide)) (fun _ => ?_)
                refine lv_iconst (v := (0 : Int32)) hx hb dX12_readsStatement_156 (by decide) ?_
                subst hQ_
                exact z_zret C0 hP hS (v := (0 : Int32)) (by decide) (by exact Or.inr ⟨rfl, p + 1 + 3, gs_x (gs_d h0 h15 (by omega) (fun i hi => (hD9.1 i hi).2.1)) (by have := RDg_le hD9 (by omega); omega) (fun h => nf_e (by first | (exfalso; omega) | exact c_153) (Or.inl (by omega))), (fun k hk => (hF9 k (by omega)).trans (g1_n (by omega))), (fun x a b => (hD9.2.2.2.1 x a b).trans ((congrFun (g1_s _ _ _) x).trans ((pk_un b).trans (pk_un a)))), (hD9.2.2.2.2.1).trans (congrArg nI (by omega))⟩) dX12_readsStatement_157
            · skip
              have hF9 := hD9.2.2.1
              have hle9 := RDg_le hD9 (show p + 1 ≤ K by omega)
              refine lv_istore_n (lv' := [(2, .int (0 : Int32)), (1, .int (L p)), (0, .ref (E.1 92))]) hx hb dX12_readsStatement_110 rfl hl (by decide) rfl (fun ls hl => ?_)
              refine lv_goto (tgt := 143) hx hb dX12_readsStatement_111 (by decide) ?_
              refine lv_iload_n hx hb dX12_readsStatement_143 rfl (lv_at hl 0 rfl) ?_
              refine lv_if_eq (tgt := 156) hx hb dX12_readsStatement_144 (by decide) (fun _ => ?_) (fun h_ => absurd (by decide) h_)
              refine lv_iconst (v := (0 : Int32)) hx hb dX12_readsStatement_156 (by decide) ?_
              subst hQ_
              exact z_zret C0 hP hS (v := (0 : Int32)) (by decide) (by exact Or.inr ⟨rfl, p + 1 + jj, gs_x (gs_d h0 h15 (by omega) (fun i hi => (hD9.1 i hi).2.1)) (by have := RDg_le hD9 (by omega); omega) (fun h => nf_d (by omega) (Or.inl h15) (fun q => hnd9 ⟨by omega, q⟩)), (fun k hk => (hF9 k (by omega)).trans (g1_n (by omega))), (fun x a b => (hD9.2.2.2.1 x a b).trans ((congrFun (g1_s _ _ _) x).trans ((pk_un b).trans (pk_un a)))), (hD9.2.2.2.2.1).trans (congrArg nI (by omega))⟩) dX12_readsStatement_157
          · skip
            by_cases e120_21 : (L p) = (120 : Int32)
            · skip
              refine lv_lookup (tgt := 122) (off := 101) hx hb dX12_readsStatement_21 (by decide) (by rw [e120_21]; rfl) (by decide) ?_
              have h0 : ¬ c_least (L p) = 0 := by rw [e120_21]; decide
              have h15 : ¬ L p = 115 := z_hne e120_21 (by decide)
              have hlm : c_least (L p) = 2 ∧ c_most (L p) = 2 := by rw [e120_21]; decide
              refine lv_aload_n hx hb dX12_readsStatement_122 rfl (lv_at hl 1 rfl) ?_
              refine lv_iconst (v := (2 : Int32)) hx hb dX12_readsStatement_123 (by decide) ?_
              refine z_Vi C0 hP hD hA hS (As := [.int (2 : Int32)]) (rest := []) (k := 92) (c_X12_readsDigits l E _ L K (p + 1) 0 ((g1_n (by decide)).trans (hL)) ((congrFun (g1_s _ _ _) _).trans ((pk_un (by decide)).trans ((pk_un (by decide)).trans (hK)))) ((congrFun (g1_s _ _ _) _).trans ((pk_un (by decide)).trans (pk_us))) ((congrFun (g1_s _ _ _) _).trans (pk_us)) hK96 (by omega) 2 (by omega)) (cwV 1 hts (zgV zbw mlRX12_126 imX12_readsDigits seX12_readsDigits iniRX12 coX12_readsDigits) rfl rfl rfl (by decide +kernel) ⟨Nat.le_of_ble_eq_true rfl, Nat.le_of_ble_eq_true rfl⟩) (zk_lt (rfl : zk 92 = 10) (by decide)) (zd_10 E (rfl : zk 92 = 10) _) rfl rfl rfl hl.1 rfl (Nat.le_of_ble_eq_true rfl) dX12_readsStatement_124 ⟨Nat.zero_le _, Nat.zero_le _⟩ (fun r11 G11 H locs hw11 hP hS => ?_)
              rcases hw11 with ⟨rfl, hD11⟩ | ⟨rfl, jj, hjj, hD11, hnd11⟩
              · skip
                have hF11 := hD11.2.2.1
                have hle11 := RDg_le hD11 (show p + 1 ≤ K by omega)
                refine lv_istore_n (lv' := [(2, .int (1 : Int32)), (1, .int (L p)), (0, .ref (E.1 92))]) hx hb dX12_readsStatement_127 rfl hl (by decide) rfl (fun ls hl => ?_)
                refine lv_goto (tgt := 143) hx hb dX12_readsStatement_128 (by decide) ?_
                refine lv_iload_n hx hb dX12_readsStatement_143 rfl (lv_at hl 0 rfl) ?_
                refine lv_if_eq (tgt := 156) hx hb dX12_readsStatement_144 (by decide) (fun h_ => absurd h_ (by decide)) (fun _ => ?_)
                refine lv_aload_n hx hb dX12_readsStatement_147 rfl (lv_at hl 2 rfl) ?_
                refine z_Vi C0 hP hD hA hS (As := []) (rest := []) (k := 92) (c_X12_here l E _ L K (p + 1 + 2) 2 ((hF11 _ (by decide)).trans ((g1_n (by decide)).trans (hL))) (((hD11.2.2.2.1 8 (by decide) (by decide)).trans ((congrFun (g1_s _ _ _) _).trans ((pk_un (by decide)).trans ((pk_un (by decide)).trans (hK)))))) (hD11.2.2.2.2.1) ((hD11.2.2.2.2.2.trans (congrArg nI (Nat.zero_add _)))) hK96 (by omega)) (cwV 0 hts (zgV zbw mlRX12_112 imX12_here seX12_here iniRX12 coX12_here) rfl rfl rfl (by decide +kernel) ⟨Nat.le_of_ble_eq_true rfl, Nat.le_of_ble_eq_true rfl⟩) (zk_lt (rfl : zk 92 = 10) (by decide)) (zd_10 E (rfl : zk 92 = 10) _) rfl rfl rfl hl.1 rfl (Nat.le_of_ble_eq_true rfl) dX12_readsStatement_148 ⟨Nat.zero_le _, Nat.zero_le _⟩ (fun r12 G12 H locs hw12 hP hS => ?_)
                rcases hw12 with ⟨hpk12, rfl, rfl⟩ | ⟨hpk12, rfl, rfl⟩
                · skip
                  refine lv_bipush (v := (59 : Int32)) hx hb dX12_readsStatement_151 (by decide) ?_
                  refine lv_icmp_eq (tgt := 158) hx hb dX12_readsStatement_153 (by decide) (fun c_153 => ?_) (fun c_153 => ?_)
                  · skip
                    refine lv_aload_n hx hb dX12_readsStatement_158 rfl (lv_at hl 2 rfl) ?_
                    refine lv_dup hx hb dX12_readsStatement_159 rfl ?_
                    refine z_get C0 hP (C := RX12) (T := TX12) (N := 21) (ci := 10) (index := 109) (k := 92) (ref := "WetSuitPedalsShoesModel") (zk_lt (rfl : zk 92 = 10) (by decide)) (zd_10 E (rfl : zk 92 = 10) _) rfl (zmi inU_12) 13 (by decide) (zm flRX12_109) rfl (v := .int (nI (p + 1 + 2))) (congrArg (fun z => some (Value.int z)) (hD11.2.2.2.2.1)) dX12_readsStatement_160 ?_
                    refine lv_iconst (v := (1 : Int32)) hx hb dX12_readsStatement_163 (by decide) ?_
                    refine z_iadd hx hb (a := p + 1 + 2) (b := 1) (n := (p + 1 + 2) + 1) dX12_readsStatement_164 rfl rfl rfl ?_
                    refine z_put C0 hP hD hS (C := RX12) (T := TX12) (N := 21) (ci := 10) (index := 109) (k := 92) (ref := "WetSuitPedalsShoesModel") (F := G11 92) (ty := .int) (rfl) tyX12 tyX12_ok nmX12 (zk_lt (rfl : zk 92 = 10) (by decide)) (zd_10 E (rfl : zk 92 = 10) _) rfl (zmi inU_12) 13 (by decide) (zm flRX12_109) rfl rfl (by decide +kernel) (by rfl) rfl (by show 13 < 21; decide) (upd (G11 92) 13 (nI ((p + 1 + 2) + 1))) ((zd_10 E (rfl : zk 92 = 10) _).trans (rfl)) dX12_readsStatement_165 (fun H locs hP hS => ?_)
                    refine lv_iconst (v := (1 : Int32)) hx hb dX12_readsStatement_168 (by decide) ?_
                    subst hQ_
                    exact z_zret C0 hP hS (v := (1 : Int32)) (by decide) (by exact Or.inl ⟨rfl, p + 1 + 2, by omega, gs_ok (gs_d h0 h15 (by omega) (fun i hi => (hD11.1 i hi).2.1)) (by omega) c_153, (fun k hk => (g1_n (by omega)).trans ((hF11 k (by omega)).trans (g1_n (by omega)))), (fun x a b => (congrFun (g1_s _ _ _) x).trans ((pk_un a).trans ((hD11.2.2.2.1 x a b).trans ((congrFun (g1_s _ _ _) x).trans ((pk_un b).trans (pk_un a)))))), ((congrFun (g1_s _ _ _) _).trans (pk_us)).trans (congrArg nI (by omega)), ((congrFun (g1_s _ _ _) _).trans ((pk_un (by decide)).trans ((hD11.2.2.2.2.2.trans (congrArg nI (Nat.zero_add _)))))).trans (congrArg nI (by omega)), (fun z => absurd z h15), (fun j hj _ => (congrFun (g1_n (by decide)) j).trans (RDg_n hD11 (by omega)))⟩) dX12_readsStatement_169
                  · skip
                    refine lv_iconst (v := (0 : Int32)) hx hb dX12_readsStatement_156 (by decide) ?_
                    subst hQ_
                    exact z_zret C0 hP hS (v := (0 : Int32)) (by decide) (by exact Or.inr ⟨rfl, p + 1 + 2, gs_x (gs_d h0 h15 (by omega) (fun i hi => (hD11.1 i hi).2.1)) (by have := RDg_le hD11 (by omega); omega) (fun h => nf_e (by first | (exfalso; omega) | exact c_153) (Or.inl (by omega))), (fun k hk => (hF11 k (by omega)).trans (g1_n (by omega))), (fun x a b => (hD11.2.2.2.1 x a b).trans ((congrFun (g1_s _ _ _) x).trans ((pk_un b).trans (pk_un a)))), (hD11.2.2.2.2.1).trans (congrArg nI (by omega))⟩) dX12_readsStatement_157
                · skip
                  refine lv_bipush (v := (59 : Int32)) hx hb dX12_readsStatement_151 (by decide) ?_
                  refine lv_icmp_eq (tgt := 158) hx hb dX12_readsStatement_153 (by decide) (fun h_ => absurd h_ (by decide)) (fun _ => ?_)
                  refine lv_iconst (v := (0 : Int32)) hx hb dX12_readsStatement_156 (by decide) ?_
                  subst hQ_
                  exact z_zret C0 hP hS (v := (0 : Int32)) (by decide) (by exact Or.inr ⟨rfl, p + 1 + 2, gs_x (gs_d h0 h15 (by omega) (fun i hi => (hD11.1 i hi).2.1)) (by have := RDg_le hD11 (by omega); omega) (fun h => nf_e (by first | (exfalso; omega) | exact c_153) (Or.inl (by omega))), (fun k hk => (hF11 k (by omega)).trans (g1_n (by omega))), (fun x a b => (hD11.2.2.2.1 x a b).trans ((congrFun (g1_s _ _ _) x).trans ((pk_un b).trans (pk_un a)))), (hD11.2.2.2.2.1).trans (congrArg nI (by omega))⟩) dX12_readsStatement_157
              · skip
                have hF11 := hD11.2.2.1
                have hle11 := RDg_le hD11 (show p + 1 ≤ K by omega)
                refine lv_istore_n (lv' := [(2, .int (0 : Int32)), (1, .int (L p)), (0, .ref (E.1 92))]) hx hb dX12_readsStatement_127 rfl hl (by decide) rfl (fun ls hl => ?_)
                refine lv_goto (tgt := 143) hx hb dX12_readsStatement_128 (by decide) ?_
                refine lv_iload_n hx hb dX12_readsStatement_143 rfl (lv_at hl 0 rfl) ?_
                refine lv_if_eq (tgt := 156) hx hb dX12_readsStatement_144 (by decide) (fun _ => ?_) (fun h_ => absurd (by decide) h_)
                refine lv_iconst (v := (0 : Int32)) hx hb dX12_readsStatement_156 (by decide) ?_
                subst hQ_
                exact z_zret C0 hP hS (v := (0 : Int32)) (by decide) (by exact Or.inr ⟨rfl, p + 1 + jj, gs_x (gs_d h0 h15 (by omega) (fun i hi => (hD11.1 i hi).2.1)) (by have := RDg_le hD11 (by omega); omega) (fun h => nf_d (by omega) (Or.inl h15) (fun q => hnd11 ⟨by omega, q⟩)), (fun k hk => (hF11 k (by omega)).trans (g1_n (by omega))), (fun x a b => (hD11.2.2.2.1 x a b).trans ((congrFun (g1_s _ _ _) x).trans ((pk_un b).trans (pk_un a)))), (hD11.2.2.2.2.1).trans (congrArg nI (by omega))⟩) dX12_readsStatement_157
            · skip
              refine lv_lookup (tgt := 131) (off := 110) hx hb dX12_readsStatement_21 (by decide) ((lv_osw e97_21 rfl).trans ((lv_osw e112_21 rfl).trans ((lv_osw e115_21 rfl).trans ((lv_osw e116_21 rfl).trans ((lv_osw e120_21 rfl).trans (rfl)))))) (by decide) ?_
              refine lv_aload_n hx hb dX12_readsStatement_131 rfl (lv_at hl 1 rfl) ?_
              refine lv_dup hx hb dX12_readsStatement_132 rfl ?_
              refine z_get C0 hP (C := RX12) (T := TX12) (N := 21) (ci := 10) (index := 109) (k := 92) (ref := "WetSuitPedalsShoesModel") (zk_lt (rfl : zk 92 = 10) (by decide)) (zd_10 E (rfl : zk 92 = 10) _) rfl (zmi inU_12) 13 (by decide) (zm flRX12_109) rfl (v := .int (nI (p + 1))) (congrArg (fun z => some (Value.int z)) ((congrFun (g1_s _ _ _) _).trans ((pk_un (by decide)).trans (pk_us)))) dX12_readsStatement_133 ?_
              refine lv_iconst (v := (1 : Int32)) hx hb dX12_readsStatement_136 (by decide) ?_
              refine z_isub hx hb (a := p + 1) (b := 1) (n := p) dX12_readsStatement_137 rfl rfl (by omega) (by omega) ?_
              refine z_put C0 hP hD hS (C := RX12) (T := TX12) (N := 21) (ci := 10) (index := 109) (k := 92) (ref := "WetSuitPedalsShoesModel") (F := (upd (upd (G 92) 13 (nI (p + 1))) 15 (0 : Int32))) (ty := .int) (g1_s _ _ _) tyX12 tyX12_ok nmX12 (zk_lt (rfl : zk 92 = 10) (by decide)) (zd_10 E (rfl : zk 92 = 10) _) rfl (zmi inU_12) 13 (by decide) (zm flRX12_109) rfl rfl (by decide +kernel) (by rfl) rfl (by show 13 < 21; decide) (upd (upd (upd (G 92) 13 (nI (p + 1))) 15 (0 : Int32)) 13 (nI p)) ((zd_10 E (rfl : zk 92 = 10) _).trans (rfl)) dX12_readsStatement_138 (fun H locs hP hS => ?_)
              have hP := zP_eq (g1_t _ _ _ _ : _ = (g1 G 92 (upd (upd (upd (G 92) 13 (nI (p + 1))) 15 (0 : Int32)) 13 (nI p)))) hP
              refine lv_iconst (v := (0 : Int32)) hx hb dX12_readsStatement_141 (by decide) ?_
              subst hQ_
              exact z_zret C0 hP hS (v := (0 : Int32)) (by decide) (by exact Or.inr ⟨rfl, p, by first | exact g_stop_0 hpK (fun _ => c_least_0 e97_21 e112_21 e115_21 e116_21 e120_21) | exact g_stop_0 hpK (fun q => absurd q (by omega)), (fun k hk => g1_n (by omega)), (fun x a b => (congrFun (g1_s _ _ _) x).trans ((pk_un a).trans ((pk_un b).trans (pk_un a)))), (congrFun (g1_s _ _ _) _).trans (pk_us)⟩) dX12_readsStatement_142
  · skip
    refine lv_istore_n (lv' := [(1, .int (-1 : Int32)), (0, .ref (E.1 92))]) hx hb dX12_readsStatement_4 rfl hl (by decide) rfl (fun ls hl => ?_)
    refine lv_aload_n hx hb dX12_readsStatement_5 rfl (lv_at hl 1 rfl) ?_
    refine lv_dup hx hb dX12_readsStatement_6 rfl ?_
    refine z_get C0 hP (C := RX12) (T := TX12) (N := 21) (ci := 10) (index := 109) (k := 92) (ref := "WetSuitPedalsShoesModel") (zk_lt (rfl : zk 92 = 10) (by decide)) (zd_10 E (rfl : zk 92 = 10) _) rfl (zmi inU_12) 13 (by decide) (zm flRX12_109) rfl (v := .int (nI p)) (congrArg (fun z => some (Value.int z)) (hpp)) dX12_readsStatement_7 ?_
    refine lv_iconst (v := (1 : Int32)) hx hb dX12_readsStatement_10 (by decide) ?_
    refine z_iadd hx hb (a := p) (b := 1) (n := p + 1) dX12_readsStatement_11 rfl rfl rfl ?_
    refine z_put C0 hP hD hS (C := RX12) (T := TX12) (N := 21) (ci := 10) (index := 109) (k := 92) (ref := "WetSuitPedalsShoesModel") (F := G 92) (ty := .int) (rfl) tyX12 tyX12_ok nmX12 (zk_lt (rfl : zk 92 = 10) (by decide)) (zd_10 E (rfl : zk 92 = 10) _) rfl (zmi inU_12) 13 (by decide) (zm flRX12_109) rfl rfl (by decide +kernel) (by rfl) rfl (by show 13 < 21; decide) (upd (G 92) 13 (nI (p + 1))) ((zd_10 E (rfl : zk 92 = 10) _).trans (rfl)) dX12_readsStatement_12 (fun H locs hP hS => ?_)
    refine lv_aload_n hx hb dX12_readsStatement_15 rfl (lv_at hl 1 rfl) ?_
    refine lv_iconst (v := (0 : Int32)) hx hb dX12_readsStatement_16 (by decide) ?_
    refine z_put C0 hP hD hS (C := RX12) (T := TX12) (N := 21) (ci := 10) (index := 116) (k := 92) (ref := "WetSuitPedalsShoesModel") (F := (upd (G 92) 13 (nI (p + 1)))) (ty := .int) (g1_s _ _ _) tyX12 tyX12_ok nmX12 (zk_lt (rfl : zk 92 = 10) (by decide)) (zd_10 E (rfl : zk 92 = 10) _) rfl (zmi inU_12) 15 (by decide) (zm flRX12_116) rfl rfl (by decide +kernel) (by rfl) rfl (by show 15 < 21; decide) (upd (upd (G 92) 13 (nI (p + 1))) 15 (0 : Int32)) ((zd_10 E (rfl : zk 92 = 10) _).trans (rfl)) dX12_readsStatement_17 (fun H locs hP hS => ?_)
    have hP := zP_eq (g1_t _ _ _ _ : _ = (g1 G 92 (upd (upd (G 92) 13 (nI (p + 1))) 15 (0 : Int32)))) hP
    refine lv_iload_n hx hb dX12_readsStatement_20 rfl (lv_at hl 0 rfl) ?_
    refine lv_lookup (tgt := 131) (off := 110) hx hb dX12_readsStatement_21 (by decide) (by decide) (by decide) ?_
    refine lv_aload_n hx hb dX12_readsStatement_131 rfl (lv_at hl 1 rfl) ?_
    refine lv_dup hx hb dX12_readsStatement_132 rfl ?_
    refine z_get C0 hP (C := RX12) (T := TX12) (N := 21) (ci := 10) (index := 109) (k := 92) (ref := "WetSuitPedalsShoesModel") (zk_lt (rfl : zk 92 = 10) (by decide)) (zd_10 E (rfl : zk 92 = 10) _) rfl (zmi inU_12) 13 (by decide) (zm flRX12_109) rfl (v := .int (nI (p + 1))) (congrArg (fun z => some (Value.int z)) ((congrFun (g1_s _ _ _) _).trans ((pk_un (by decide)).trans (pk_us)))) dX12_readsStatement_133 ?_
    refine lv_iconst (v := (1 : Int32)) hx hb dX12_readsStatement_136 (by decide) ?_
    refine z_isub hx hb (a := p + 1) (b := 1) (n := p) dX12_readsStatement_137 rfl rfl (by omega) (by omega) ?_
    refine z_put C0 hP hD hS (C := RX12) (T := TX12) (N := 21) (ci := 10) (index := 109) (k := 92) (ref := "WetSuitPedalsShoesModel") (F := (upd (upd (G 92) 13 (nI (p + 1))) 15 (0 : Int32))) (ty := .int) (g1_s _ _ _) tyX12 tyX12_ok nmX12 (zk_lt (rfl : zk 92 = 10) (by decide)) (zd_10 E (rfl : zk 92 = 10) _) rfl (zmi inU_12) 13 (by decide) (zm flRX12_109) rfl rfl (by decide +kernel) (by rfl) rfl (by show 13 < 21; decide) (upd (upd (upd (G 92) 13 (nI (p + 1))) 15 (0 : Int32)) 13 (nI p)) ((zd_10 E (rfl : zk 92 = 10) _).trans (rfl)) dX12_readsStatement_138 (fun H locs hP hS => ?_)
    have hP := zP_eq (g1_t _ _ _ _ : _ = (g1 G 92 (upd (upd (upd (G 92) 13 (nI (p + 1))) 15 (0 : Int32)) 13 (nI p)))) hP
    refine lv_iconst (v := (0 : Int32)) hx hb dX12_readsStatement_141 (by decide) ?_
    subst hQ_
    exact z_zret C0 hP hS (v := (0 : Int32)) (by decide) (by exact Or.inr ⟨rfl, p, by first | exact g_stop_0 hpK (fun _ => c_least_0 e97_21 e112_21 e115_21 e116_21 e120_21) | exact g_stop_0 hpK (fun q => absurd q (by omega)), (fun k hk => g1_n (by omega)), (fun x a b => (congrFun (g1_s _ _ _) x).trans ((pk_un a).trans ((pk_un b).trans (pk_un a)))), (congrFun (g1_s _ _ _) _).trans (pk_us)⟩) dX12_readsStatement_142
