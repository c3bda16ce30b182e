/-! laid by wip/whole/vcg.py -/
theorem mlRX12_146 : Cond.methodLink RX12 146 yX12_readsStatement ∈ zU := zU_m 884 (by decide +kernel) rfl
theorem coX12_readsStatement : Cond.code yX12_readsStatement cX12_readsStatement 3 (some .boolean) ∈ zU := zU_m 887 (by decide +kernel) rfl
theorem imX12_readsStatement : Cond.instanceMethod yX12_readsStatement ∈ zU := zU_m 886 (by decide +kernel) rfl
theorem seX12_readsStatement : Cond.selects RX12 yX12_readsStatement yX12_readsStatement ∈ zU := zU_m 27 (by decide +kernel) rfl
theorem flRX12_19 : Cond.fieldLink RX12 19 "WetSuitPedalsShoesModel" "was" "[I" ∈ zU := zU_m 811 (by decide +kernel) rfl
theorem z_lit_Arr102_96 : zIs 96 tArr102 := by unfold zIs; decide +kernel
theorem mlRX12_153 : Cond.methodLink RX12 153 yX12_isDone ∈ zU := zU_m 917 (by decide +kernel) rfl
theorem coX12_isDone : Cond.code yX12_isDone cX12_isDone 5 (some .boolean) ∈ zU := zU_m 920 (by decide +kernel) rfl
theorem imX12_isDone : Cond.instanceMethod yX12_isDone ∈ zU := zU_m 919 (by decide +kernel) rfl
theorem seX12_isDone : Cond.selects RX12 yX12_isDone yX12_isDone ∈ zU := zU_m 33 (by decide +kernel) rfl
set_option maxHeartbeats 4000000 in
set_option maxRecDepth 100000 in
theorem c_X12_race (l : Launch) (E : zE) (G : zG) (L : Nat → Int32) (K m0 : Nat) (hL : G 97 = L) (hK : G 92 8 = nI K) (hm0 : G 92 15 = nI m0) (hK96 : K ≤ 96) (r : Nat → Int32) (n na : Nat) (hM : G 93 = r) (hw : zRw r n na) : zMi l yX12_race wsX12_race ({ frames := 5, cells := 0, slots := 0, locals := 108 } : Room) E G [.ref (E.1 92)] (fun r1 G1 => ∃ q n2 na2, r_res L K r n na r1 q n2 na2 ∧ (∀ j, j < 102 → G1 93 j = q j) ∧ (∀ k, (k < 92 ∨ (93 < k ∧ k < 96) ∨ (96 < k ∧ k < 103) ∨ 103 < k) → G1 k = G k) ∧ (∀ x, x ≠ 13 → x ≠ 15 → x ≠ 8 → G1 92 x = G 92 x) ∧ G1 92 8 = 0) := by
  refine zOf (cc := cX12_race) (nL := 6) (ret := (some .int)) RX12 (by decide) rfl rfl (Nat.le_of_ble_eq_true rfl) ?_
  intro p_ e_ s_ m_ a_ b_ me_ c_ ls C0 hP hS hl
  have hx := C0.1
  have hb := C0.2.1
  have hts := C0.2.2.2.2.1
  have hD : zD E (zA E s_.heap.size) := C0.2.2.2.2.2.2.2.2
  have hA : ∀ q : Nat, s_.heap.size ≤ q → zA E s_.heap.size q := fun q h => Or.inr h
  refine z_gen (fun Q_ hQ_ => ?_)
  have hl : lv_has ls 6 [(0, .ref (E.1 92))] := hl
  refine lv_aload_n hx hb dX12_race_0 rfl (lv_at hl 0 rfl) ?_
  refine lv_iconst (v := (0 : Int32)) hx hb dX12_race_1 (by decide) ?_
  refine z_put C0 hP hD hS (C := RX12) (T := TX12) (N := 21) (ci := 10) (index := 109) (k := 92) (ref := "WetSuitPedalsShoesModel") (F := G 92) (ty := .int) (rfl) tyX12 tyX12_ok nmX12 (zk_lt (rfl : zk 92 = 10) (by decide)) (zd_10 E (rfl : zk 92 = 10) _) rfl (zmi inU_12) 13 (by decide) (zm flRX12_109) rfl rfl (by decide +kernel) (by rfl) rfl (by show 13 < 21; decide) (upd (G 92) 13 (0 : Int32)) ((zd_10 E (rfl : zk 92 = 10) _).trans (rfl)) dX12_race_2 (fun H locs hP hS => ?_)
  refine lv_iconst (v := (0 : Int32)) hx hb dX12_race_5 (by decide) ?_
  refine lv_istore_n (lv' := [(1, .int (0 : Int32)), (0, .ref (E.1 92))]) hx hb dX12_race_6 rfl hl (by decide) rfl (fun ls hl => ?_)
  refine lv_bipush (v := (-9 : Int32)) hx hb dX12_race_7 (by decide) ?_
  refine lv_istore_n (lv' := [(2, .int (-9 : Int32)), (1, .int (0 : Int32)), (0, .ref (E.1 92))]) hx hb dX12_race_9 rfl hl (by decide) rfl (fun ls hl => ?_)
  have cut_10 : ∀ (fuel : Nat), ∀ (k p m : Nat) (Gc : zG) (H : Heap) (locs : List Loc) (ls : Array Slot), (p = r_pos L K k) → (∀ j, j < k → r_pos L K j < K) → (g_at L p) → (p ≤ K) → (p < K ∨ K = 0) → (Gc 92 13 = nI p) → (Gc 92 15 = nI m) → (∀ k, (k < 92 ∨ (92 < k ∧ k < 103) ∨ 103 < k) → Gc k = G k) → (∀ x, x ≠ 13 → x ≠ 15 → Gc 92 x = G 92 x) → zP E Gc H → va_S (zA E s_.heap.size) s_.heap H locs → lv_has ls 6 [(0, .ref (E.1 92)), (1, .int (nI k)), (2, .int (-9 : Int32))] → K - p < fuel → W p_ l e_ ({ frames := 5, cells := 0, slots := 0, locals := 108 } : Room) s_ m_ a_ b_ me_ c_ H locs 0 0 Q_ (F0 m_ 10 ls []) := by
    intro fuel
    induction fuel with
    | zero =>
      intro k p m  Gc  H locs ls hp hlt hga hpK hp0 h13 h15 hFc h92 hP hS hl hfu
      exact absurd hfu (Nat.not_lt_zero _)
    | succ fuel ih_10 =>
      intro k p m  Gc  H locs ls hp hlt hga hpK hp0 h13 h15 hFc h92 hP hS hl hfu_10
      refine lv_aload_n hx hb dX12_race_10 rfl (lv_at hl 0 rfl) ?_
      refine z_Vi C0 hP hD hA hS (As := []) (rest := []) (k := 92) (c_X12_readsStatement l E _ L K p m ((hFc _ (by decide)).trans (hL)) (((h92 8 (by decide) (by decide)).trans hK)) (h13) (h15) hK96 (by omega)) (cwV 0 hts (zgV zbw mlRX12_146 imX12_readsStatement seX12_readsStatement iniRX12 coX12_readsStatement) rfl rfl rfl (by decide +kernel) ⟨Nat.le_of_ble_eq_true rfl, Nat.le_of_ble_eq_true rfl⟩) (zk_lt (rfl : zk 92 = 10) (by decide)) (zd_10 E (rfl : zk 92 = 10) _) rfl rfl rfl hl.1 rfl (Nat.le_of_ble_eq_true rfl) dX12_race_11 ⟨Nat.zero_le _, Nat.zero_le _⟩ (fun r1 G1 H locs hw1 hP hS => ?_)
      rcases hw1 with ⟨rfl, e1, heK1, hgr1, hst1⟩ | ⟨rfl, q, hsp, hF1, hr91, h131⟩
      · skip
        have hF1 := hst1.1
        refine lv_if_ne (tgt := 26) hx hb dX12_race_14 (by decide) (fun _ => ?_) (fun h_ => absurd h_ (by decide))
        refine lv_iinc (v := (nI (k + 1))) (lv' := [(1, .int (nI (k + 1))), (0, .ref (E.1 92)), (2, .int (-9 : Int32))]) hx hb dX12_race_26 hl (k := 1) rfl (z_inc (by decide)) (by decide) rfl (fun ls hl => ?_)
        refine lv_iload_n hx hb dX12_race_29 rfl (lv_at hl 2 rfl) ?_
        refine lv_bipush (v := (-9 : Int32)) hx hb dX12_race_30 (by decide) ?_
        refine lv_icmp_ne (tgt := 46) hx hb dX12_race_32 (by decide) (fun h_ => absurd (by decide) h_) (fun _ => ?_)
        refine lv_aload_n hx hb dX12_race_35 rfl (lv_at hl 1 rfl) ?_
        refine z_get C0 hP (C := RX12) (T := TX12) (N := 21) (ci := 10) (index := 109) (k := 92) (ref := "WetSuitPedalsShoesModel") (zk_lt (rfl : zk 92 = 10) (by decide)) (zd_10 E (rfl : zk 92 = 10) _) rfl (zmi inU_12) 13 (by decide) (zm flRX12_109) rfl (v := .int (nI (e1 + 1))) (congrArg (fun z => some (Value.int z)) (hst1.2.2.1)) dX12_race_36 ?_
        refine lv_aload_n hx hb dX12_race_39 rfl (lv_at hl 1 rfl) ?_
        refine z_get C0 hP (C := RX12) (T := TX12) (N := 21) (ci := 10) (index := 105) (k := 92) (ref := "WetSuitPedalsShoesModel") (zk_lt (rfl : zk 92 = 10) (by decide)) (zd_10 E (rfl : zk 92 = 10) _) rfl (zmi inU_12) 8 (by decide) (zm flRX12_105) rfl (v := .int (nI K)) (congrArg (fun z => some (Value.int z)) (((hst1.2.1 8 (by decide) (by decide)).trans (((h92 8 (by decide) (by decide)).trans hK))))) dX12_race_40 ?_
        refine z_N_lt hx hb (a := e1 + 1) (b := K) (tgt := 10) dX12_race_43 rfl rfl (by omega) (by omega) (by decide) (fun c_43 => ?_) (fun c_43 => ?_)
        · skip
          exact ih_10 (k + 1) (e1 + 1) (e1 - p - 1) G1 _ _ _ (by show _ = c_end L K (r_pos L K k) + 1; rw [← hp, gram_end hgr1 heK1]) (by intro j hj; rcases Nat.lt_or_ge j k with q9 | q9; (exact hlt j q9); (have := hgr1.2.1; rw [show j = k by omega, ← hp]; omega)) (by exact g_next hga hgr1) (by omega) (by omega) (by exact hst1.2.2.1) (by exact hst1.2.2.2.1) (by exact fun k hk => (hF1 k (by omega)).trans (hFc k (by omega))) (by exact fun x a b => (hst1.2.1 x a b).trans ((h92 x a b).trans (rfl))) hP hS (lv_sub hl [1, 0, 2] rfl) (by have := hgr1.2.1; omega)
        · skip
          have hgn := g_next hga hgr1
          have hpe1 := hgr1.2.1
          have heq : e1 + 1 = K := by omega
          rw [heq] at hgn
          have hf1 := g_f9 hgn (by omega)
          have hpk1 : r_pos L K (k + 1) = K := by show c_end L K (r_pos L K k) + 1 = K; rw [← hp, gram_end hgr1 heK1]; exact heq
          have hlt1 : ∀ j, j < k + 1 → r_pos L K j < K := fun j hj => by rcases Nat.lt_or_ge j k with q9 | q9; (exact hlt j q9); (rw [show j = k by omega, ← hp]; omega)
          refine lv_aload_n hx hb dX12_race_46 rfl (lv_at hl 1 rfl) ?_
          refine z_get C0 hP (C := RX12) (T := TX12) (N := 21) (ci := 10) (index := 9) (k := 92) (ref := "WetSuitPedalsShoesModel") (zk_lt (rfl : zk 92 = 10) (by decide)) (zd_10 E (rfl : zk 92 = 10) _) rfl (zmi inU_12) 0 (by decide) (zm flRX12_9) rfl (v := .ref (E.1 93)) (rfl) dX12_race_47 ?_
          refine lv_aload_n hx hb dX12_race_50 rfl (lv_at hl 1 rfl) ?_
          refine z_get C0 hP (C := RX12) (T := TX12) (N := 21) (ci := 10) (index := 19) (k := 92) (ref := "WetSuitPedalsShoesModel") (zk_lt (rfl : zk 92 = 10) (by decide)) (zd_10 E (rfl : zk 92 = 10) _) rfl (zmi inU_12) 3 (by decide) (zm flRX12_19) rfl (v := .ref (E.1 96)) (rfl) dX12_race_51 ?_
          refine z_Sv C0 hP hD hA hS (As := [.ref (E.1 93), .ref (E.1 96)]) (rest := []) (c_X12_lays l E _ 93 96 z_lit_Arr102_93 z_lit_Arr102_96 (by decide)) (va_cwS 2 hts (zgS zbw mlRX12_149 stX12_lays iniRX12 coX12_lays) rfl rfl rfl (by decide +kernel) ⟨Nat.le_of_ble_eq_true rfl, Nat.le_of_ble_eq_true rfl⟩) rfl hl.1 rfl (Nat.le_of_ble_eq_true rfl) dX12_race_54 ⟨Nat.zero_le _, Nat.zero_le _⟩ (fun G2 H locs hw2 hP hS => ?_)
          obtain ⟨hF2, hcp2⟩ := hw2
          refine lv_aload_n hx hb dX12_race_57 rfl (lv_at hl 1 rfl) ?_
          refine lv_iconst (v := (0 : Int32)) hx hb dX12_race_58 (by decide) ?_
          refine z_put C0 hP hD hS (C := RX12) (T := TX12) (N := 21) (ci := 10) (index := 109) (k := 92) (ref := "WetSuitPedalsShoesModel") (F := G1 92) (ty := .int) (hF2 _ (by decide)) tyX12 tyX12_ok nmX12 (zk_lt (rfl : zk 92 = 10) (by decide)) (zd_10 E (rfl : zk 92 = 10) _) rfl (zmi inU_12) 13 (by decide) (zm flRX12_109) rfl rfl (by decide +kernel) (by rfl) rfl (by show 13 < 21; decide) (upd (G1 92) 13 (0 : Int32)) ((zd_10 E (rfl : zk 92 = 10) _).trans (rfl)) dX12_race_59 (fun H locs hP hS => ?_)
          have cut_62 : ∀ (fuel : Nat), ∀ (k2 p2 m2 : Nat) (Gd : zG) (H : Heap) (locs : List Loc) (ls : Array Slot), (p2 = r_pos L K k2) → (∀ j, j < k2 → r_pos L K j < K ∧ r_ok L K n na j = true) → (Gd 92 13 = nI p2) → (Gd 92 15 = nI m2) → (∀ k, (k < 92 ∨ (93 < k ∧ k < 96) ∨ (96 < k ∧ k < 103) ∨ 103 < k) → Gd k = G k) → (∀ x, x ≠ 13 → x ≠ 15 → Gd 92 x = G 92 x) → (Gd 93 = r_row L K r n na k2) → (∀ j, j < 102 → Gd 96 j = r j) → zP E Gd H → va_S (zA E s_.heap.size) s_.heap H locs → lv_has ls 6 [(0, .ref (E.1 92)), (1, .int (nI (k + 1))), (2, .int (-9 : Int32))] → K - p2 < fuel → W p_ l e_ ({ frames := 5, cells := 0, slots := 0, locals := 108 } : Room) s_ m_ a_ b_ me_ c_ H locs 0 0 Q_ (F0 m_ 62 ls []) := by
            intro fuel
            induction fuel with
            | zero =>
              intro k2 p2 m2  Gd  H locs ls hp2 hall d13 d15 hFd d92 h93 h96 hP hS hl hfu
              exact absurd hfu (Nat.not_lt_zero _)
            | succ fuel ih_62 =>
              intro k2 p2 m2  Gd  H locs ls hp2 hall d13 d15 hFd d92 h93 h96 hP hS hl hfu_62
              have hrg := r_pos_g hf1 hK96 k2 (fun j hj => (hall j hj).1)
              rw [← hp2] at hrg
              have hzr := r_keep hf1 hK96 hw k2 hall
              have hp2K := hrg.2
              refine lv_iload_n hx hb dX12_race_62 rfl (lv_at hl 2 rfl) ?_
              refine lv_bipush (v := (-9 : Int32)) hx hb dX12_race_63 (by decide) ?_
              refine lv_icmp_ne (tgt := 128) hx hb dX12_race_65 (by decide) (fun h_ => absurd (by decide) h_) (fun _ => ?_)
              refine lv_aload_n hx hb dX12_race_68 rfl (lv_at hl 0 rfl) ?_
              refine z_get C0 hP (C := RX12) (T := TX12) (N := 21) (ci := 10) (index := 109) (k := 92) (ref := "WetSuitPedalsShoesModel") (zk_lt (rfl : zk 92 = 10) (by decide)) (zd_10 E (rfl : zk 92 = 10) _) rfl (zmi inU_12) 13 (by decide) (zm flRX12_109) rfl (v := .int (nI p2)) (congrArg (fun z => some (Value.int z)) (d13)) dX12_race_69 ?_
              refine lv_aload_n hx hb dX12_race_72 rfl (lv_at hl 0 rfl) ?_
              refine z_get C0 hP (C := RX12) (T := TX12) (N := 21) (ci := 10) (index := 105) (k := 92) (ref := "WetSuitPedalsShoesModel") (zk_lt (rfl : zk 92 = 10) (by decide)) (zd_10 E (rfl : zk 92 = 10) _) rfl (zmi inU_12) 8 (by decide) (zm flRX12_105) rfl (v := .int (nI K)) (congrArg (fun z => some (Value.int z)) (((d92 8 (by decide) (by decide)).trans hK))) dX12_race_73 ?_
              refine z_N_ge hx hb (a := p2) (b := K) (tgt := 128) dX12_race_76 rfl rfl (by omega) (by omega) (by decide) (fun c_76 => ?_) (fun c_76 => ?_)
              · skip
                refine lv_aload_n hx hb dX12_race_128 rfl (lv_at hl 0 rfl) ?_
                refine lv_iconst (v := (0 : Int32)) hx hb dX12_race_129 (by decide) ?_
                refine z_put C0 hP hD hS (C := RX12) (T := TX12) (N := 21) (ci := 10) (index := 105) (k := 92) (ref := "WetSuitPedalsShoesModel") (F := Gd 92) (ty := .int) (rfl) tyX12 tyX12_ok nmX12 (zk_lt (rfl : zk 92 = 10) (by decide)) (zd_10 E (rfl : zk 92 = 10) _) rfl (zmi inU_12) 8 (by decide) (zm flRX12_105) rfl rfl (by decide +kernel) (by rfl) rfl (by show 8 < 21; decide) (upd (Gd 92) 8 (0 : Int32)) ((zd_10 E (rfl : zk 92 = 10) _).trans (rfl)) dX12_race_130 (fun H locs hP hS => ?_)
                refine lv_iload_n hx hb dX12_race_133 rfl (lv_at hl 2 rfl) ?_
                refine lv_bipush (v := (-9 : Int32)) hx hb dX12_race_134 (by decide) ?_
                refine lv_icmp_ne (tgt := 143) hx hb dX12_race_136 (by decide) (fun h_ => absurd (by decide) h_) (fun _ => ?_)
                refine lv_iload_n hx hb dX12_race_139 rfl (lv_at hl 1 rfl) ?_
                refine lv_goto (tgt := 144) hx hb dX12_race_140 (by decide) ?_
                subst hQ_
                exact z_iret C0 hP hS (v := (nI (k + 1))) (by have e9 := k_same (P := fun j => r_ok L K n na j = true) hlt1 (by omega) hall (by omega); exact ⟨r_row L K r n na k2, _, _, Or.inr ⟨hf1, k2, hall, Or.inr ⟨by omega, by rw [e9], rfl, rfl, rfl⟩⟩, (fun j _ => congrFun ((g1_n (by decide)).trans h93) j), (fun k hk => (g1_n (by omega)).trans (hFd k (by omega))), (fun x a b c => (congrFun (g1_s _ _ _) x).trans ((pk_un c).trans ((d92 x a b).trans (rfl)))), (congrFun (g1_s _ _ _) _).trans (pk_us)⟩) dX12_race_144
              · skip
                obtain ⟨hgr9, hend9⟩ := g_all hf1 hK96 hrg.1 (show p2 < K by omega)
                refine lv_aload_n hx hb dX12_race_79 rfl (lv_at hl 0 rfl) ?_
                refine z_get C0 hP (C := RX12) (T := TX12) (N := 21) (ci := 10) (index := 109) (k := 92) (ref := "WetSuitPedalsShoesModel") (zk_lt (rfl : zk 92 = 10) (by decide)) (zd_10 E (rfl : zk 92 = 10) _) rfl (zmi inU_12) 13 (by decide) (zm flRX12_109) rfl (v := .int (nI p2)) (congrArg (fun z => some (Value.int z)) (d13)) dX12_race_80 ?_
                refine lv_istore_n (lv' := [(3, .int (nI p2)), (0, .ref (E.1 92)), (1, .int (nI (k + 1))), (2, .int (-9 : Int32))]) hx hb dX12_race_83 rfl hl (by decide) rfl (fun ls hl => ?_)
                refine lv_aload_n hx hb dX12_race_84 rfl (lv_at hl 1 rfl) ?_
                refine z_Vi C0 hP hD hA hS (As := []) (rest := []) (k := 92) (c_X12_here l E _ L K p2 m2 ((hFd _ (by decide)).trans (hL)) (((d92 8 (by decide) (by decide)).trans hK)) (d13) (d15) hK96 (by omega)) (cwV 0 hts (zgV zbw mlRX12_112 imX12_here seX12_here iniRX12 coX12_here) rfl rfl rfl (by decide +kernel) ⟨Nat.le_of_ble_eq_true rfl, Nat.le_of_ble_eq_true rfl⟩) (zk_lt (rfl : zk 92 = 10) (by decide)) (zd_10 E (rfl : zk 92 = 10) _) rfl rfl rfl hl.1 rfl (Nat.le_of_ble_eq_true rfl) dX12_race_85 ⟨Nat.zero_le _, Nat.zero_le _⟩ (fun r3 G3 H locs hw3 hP hS => ?_)
                rcases hw3 with ⟨hpk3, rfl, rfl⟩ | ⟨hpk3, rfl, rfl⟩
                · skip
                  refine lv_istore (lv' := [(4, .int (L p2)), (3, .int (nI p2)), (0, .ref (E.1 92)), (1, .int (nI (k + 1))), (2, .int (-9 : Int32))]) hx hb dX12_race_88 hl (by decide) rfl (fun ls hl => ?_)
                  refine lv_aload_n hx hb dX12_race_90 rfl (lv_at hl 2 rfl) ?_
                  refine z_Vi C0 hP hD hA hS (As := []) (rest := []) (k := 92) (c_X12_readsStatement l E _ L K p2 m2 ((hFd _ (by decide)).trans (hL)) (((d92 8 (by decide) (by decide)).trans hK)) (d13) (d15) hK96 (by omega)) (cwV 0 hts (zgV zbw mlRX12_146 imX12_readsStatement seX12_readsStatement iniRX12 coX12_readsStatement) rfl rfl rfl (by decide +kernel) ⟨Nat.le_of_ble_eq_true rfl, Nat.le_of_ble_eq_true rfl⟩) (zk_lt (rfl : zk 92 = 10) (by decide)) (zd_10 E (rfl : zk 92 = 10) _) rfl rfl rfl hl.1 rfl (Nat.le_of_ble_eq_true rfl) dX12_race_91 ⟨Nat.zero_le _, Nat.zero_le _⟩ (fun r4 G4 H locs hw4 hP hS => ?_)
                  rcases hw4 with ⟨rfl, e2, heK2, hgr2, hst2⟩ | ⟨rfl, q, hsp, hF4, hr94, h134⟩
                  · skip
                    have hF4 := hst2.1
                    refine lv_istore (lv' := [(5, .int (1 : Int32)), (4, .int (L p2)), (3, .int (nI p2)), (0, .ref (E.1 92)), (1, .int (nI (k + 1))), (2, .int (-9 : Int32))]) hx hb dX12_race_94 hl (by decide) rfl (fun ls hl => ?_)
                    refine lv_aload_n hx hb dX12_race_96 rfl (lv_at hl 3 rfl) ?_
                    refine lv_iload hx hb dX12_race_97 (lv_at hl 1 rfl) ?_
                    have he2 : e2 = c_end L K p2 := (gram_end hgr2 heK2).symm
                    refine z_Vi C0 hP hD hA hS (As := [.int (L p2)]) (rest := []) (k := 92) (c_X12_isDone l E _ L p2 e2 (r_row L K r n na k2) (r_n L K n k2) (r_na L K na k2) ((hF4 _ (by decide)).trans h93) hzr.1 hzr.2.1 hzr.2.2.1 hzr.2.2.2.1 hgr2 (by omega) (hst2.2.2.2.1) hst2.2.2.2.2.1 hst2.2.2.2.2.2) (cwV 1 hts (zgV zbw mlRX12_153 imX12_isDone seX12_isDone iniRX12 coX12_isDone) rfl rfl rfl (by decide +kernel) ⟨Nat.le_of_ble_eq_true rfl, Nat.le_of_ble_eq_true rfl⟩) (zk_lt (rfl : zk 92 = 10) (by decide)) (zd_10 E (rfl : zk 92 = 10) _) rfl rfl rfl hl.1 rfl (Nat.le_of_ble_eq_true rfl) dX12_race_99 ⟨Nat.zero_le _, Nat.zero_le _⟩ (fun r5 G5 H locs hw5 hP hS => ?_)
                    rcases hw5 with ⟨rfl, hok, hF5, hrow⟩ | ⟨rfl, hok, hF5⟩
                    · skip
                      refine lv_if_eq (tgt := 108) hx hb dX12_race_102 (by decide) (fun h_ => absurd h_ (by decide)) (fun _ => ?_)
                      refine lv_goto (tgt := 62) hx hb dX12_race_105 (by decide) ?_
                      exact ih_62 (k2 + 1) (e2 + 1) (e2 - p2 - 1) G5 _ _ _ (by show _ = c_end L K (r_pos L K k2) + 1; rw [← hp2, ← he2]) (by intro j hj; rcases Nat.lt_or_ge j k2 with q9 | q9; (exact hall j q9); (rw [show j = k2 by omega]; exact ⟨by omega, by unfold r_ok; rw [← hp2, ← he2]; exact hok⟩)) (by exact (congrFun (hF5 _ (by decide)) _).trans (hst2.2.2.1)) (by exact (congrFun (hF5 _ (by decide)) _).trans (hst2.2.2.2.1)) (by exact fun k hk => (hF5 k (by omega)).trans ((hF4 k (by omega)).trans (hFd k (by omega)))) (by exact fun x a b => (congrFun (hF5 92 (by decide)) x).trans ((hst2.2.1 x a b).trans ((d92 x a b).trans (rfl)))) (by have h9 := hrow; rw [he2, hp2] at h9; exact h9) (by exact fun j hj => (congrFun ((hF5 _ (by decide)).trans (hF4 _ (by decide))) j).trans (h96 j hj)) hP hS (lv_sub hl [3, 4, 5] rfl) (by have := hgr2.2.1; omega)
                    · skip
                      refine lv_if_eq (tgt := 108) hx hb dX12_race_102 (by decide) (fun _ => ?_) (fun h_ => absurd (by decide) h_)
                      refine lv_sipush (v := (-2000 : Int32)) hx hb dX12_race_108 (by decide) ?_
                      refine lv_iload_n hx hb dX12_race_111 rfl (lv_at hl 2 rfl) ?_
                      refine lv_isub hx hb dX12_race_112 ?_
                      refine lv_istore_n (lv' := [(2, .int ((-2000 : Int32) - (nI p2))), (5, .int (1 : Int32)), (4, .int (L p2)), (3, .int (nI p2)), (0, .ref (E.1 92)), (1, .int (nI (k + 1)))]) hx hb dX12_race_113 rfl hl (by decide) rfl (fun ls hl => ?_)
                      refine lv_aload_n hx hb dX12_race_114 rfl (lv_at hl 4 rfl) ?_
                      refine z_get C0 hP (C := RX12) (T := TX12) (N := 21) (ci := 10) (index := 19) (k := 92) (ref := "WetSuitPedalsShoesModel") (zk_lt (rfl : zk 92 = 10) (by decide)) (zd_10 E (rfl : zk 92 = 10) _) rfl (zmi inU_12) 3 (by decide) (zm flRX12_19) rfl (v := .ref (E.1 96)) (rfl) dX12_race_115 ?_
                      refine lv_aload_n hx hb dX12_race_118 rfl (lv_at hl 4 rfl) ?_
                      refine z_get C0 hP (C := RX12) (T := TX12) (N := 21) (ci := 10) (index := 9) (k := 92) (ref := "WetSuitPedalsShoesModel") (zk_lt (rfl : zk 92 = 10) (by decide)) (zd_10 E (rfl : zk 92 = 10) _) rfl (zmi inU_12) 0 (by decide) (zm flRX12_9) rfl (v := .ref (E.1 93)) (rfl) dX12_race_119 ?_
                      refine z_Sv C0 hP hD hA hS (As := [.ref (E.1 96), .ref (E.1 93)]) (rest := []) (c_X12_lays l E _ 96 93 z_lit_Arr102_96 z_lit_Arr102_93 (by decide)) (va_cwS 2 hts (zgS zbw mlRX12_149 stX12_lays iniRX12 coX12_lays) rfl rfl rfl (by decide +kernel) ⟨Nat.le_of_ble_eq_true rfl, Nat.le_of_ble_eq_true rfl⟩) rfl hl.1 rfl (Nat.le_of_ble_eq_true rfl) dX12_race_122 ⟨Nat.zero_le _, Nat.zero_le _⟩ (fun G6 H locs hw6 hP hS => ?_)
                      obtain ⟨hF6, hcp6⟩ := hw6
                      refine lv_goto (tgt := 62) hx hb dX12_race_125 (by decide) ?_
                      refine lv_iload_n hx hb dX12_race_62 rfl (lv_at hl 0 rfl) ?_
                      refine lv_bipush (v := (-9 : Int32)) hx hb dX12_race_63 (by decide) ?_
                      refine lv_icmp_ne (tgt := 128) hx hb dX12_race_65 (by decide) (fun c_65 => ?_) (fun c_65 => ?_)
                      · skip
                        refine lv_aload_n hx hb dX12_race_128 rfl (lv_at hl 4 rfl) ?_
                        refine lv_iconst (v := (0 : Int32)) hx hb dX12_race_129 (by decide) ?_
                        refine z_put C0 hP hD hS (C := RX12) (T := TX12) (N := 21) (ci := 10) (index := 105) (k := 92) (ref := "WetSuitPedalsShoesModel") (F := G4 92) (ty := .int) ((hF6 _ (by decide)).trans (hF5 _ (by decide))) tyX12 tyX12_ok nmX12 (zk_lt (rfl : zk 92 = 10) (by decide)) (zd_10 E (rfl : zk 92 = 10) _) rfl (zmi inU_12) 8 (by decide) (zm flRX12_105) rfl rfl (by decide +kernel) (by rfl) rfl (by show 8 < 21; decide) (upd (G4 92) 8 (0 : Int32)) ((zd_10 E (rfl : zk 92 = 10) _).trans (rfl)) dX12_race_130 (fun H locs hP hS => ?_)
                        refine lv_iload_n hx hb dX12_race_133 rfl (lv_at hl 0 rfl) ?_
                        refine lv_bipush (v := (-9 : Int32)) hx hb dX12_race_134 (by decide) ?_
                        refine lv_icmp_ne (tgt := 143) hx hb dX12_race_136 (by decide) (fun c_136 => ?_) (fun c_136 => ?_)
                        · skip
                          refine lv_iload_n hx hb dX12_race_143 rfl (lv_at hl 0 rfl) ?_
                          subst hQ_
                          exact z_iret C0 hP hS (v := ((-2000 : Int32) - (nI p2))) (by exact ⟨r, n, na, Or.inr ⟨hf1, k2, hall, Or.inl ⟨by omega, by unfold r_ok; rw [← hp2, ← he2]; exact hok, by rw [← hp2], rfl, rfl, rfl⟩⟩, (fun j hj => (congrFun (g1_n (by decide)) j).trans ((hcp6 j hj).trans ((congrFun ((hF5 _ (by decide)).trans (hF4 _ (by decide))) j).trans (h96 j hj)))), (fun k hk => (g1_n (by omega)).trans ((hF6 k (by omega)).trans ((hF5 k (by omega)).trans ((hF4 k (by omega)).trans (hFd k (by omega)))))), (fun x a b c => (congrFun (g1_s _ _ _) x).trans ((pk_un c).trans ((hst2.2.1 x a b).trans ((d92 x a b).trans (rfl))))), (congrFun (g1_s _ _ _) _).trans (pk_us)⟩) dX12_race_144
                        · exact absurd c_136 (z_m9 (c := 2000) (by omega) (by decide))
                      · exact absurd c_65 (z_m9 (c := 2000) (by omega) (by decide))
                  · skip
                    exact (gram_stop hgr9 hend9 hsp).elim
                · skip
                  exact absurd hpk3 (by omega)
          exact cut_62 (_ + 1) 0 0 (e1 - p - 1) (g1 G2 92 (upd (G1 92) 13 (0 : Int32))) _ _ _ (by rfl) (by exact fun j hj => absurd hj (Nat.not_lt_zero j)) (by exact (congrFun (g1_s _ _ _) _).trans (pk_us)) (by exact (congrFun (g1_s _ _ _) _).trans ((pk_un (by decide)).trans (hst1.2.2.2.1))) (by exact fun k hk => (g1_n (by omega)).trans ((hF2 k (by omega)).trans ((hF1 k (by omega)).trans (hFc k (by omega))))) (by exact fun x a b => (congrFun (g1_s _ _ _) x).trans ((pk_un a).trans ((hst1.2.1 x a b).trans ((h92 x a b).trans (rfl))))) (by exact (g1_n (by decide)).trans ((hF2 _ (by decide)).trans ((hF1 _ (by decide)).trans ((hFc _ (by decide)).trans (hM))))) (by exact fun j hj => (congrFun (g1_n (by decide)) j).trans ((fun j hj => (hcp2 j hj).trans (congrFun ((hF1 _ (by decide)).trans ((hFc _ (by decide)).trans (hM))) j)) j hj)) hP hS (lv_sub hl [1, 0, 2] rfl) (Nat.lt_succ_self _)
      · skip
        have hqK := hsp.2.1
        refine lv_if_ne (tgt := 26) hx hb dX12_race_14 (by decide) (fun h_ => absurd (by decide) h_) (fun _ => ?_)
        refine lv_sipush (v := (-1000 : Int32)) hx hb dX12_race_17 (by decide) ?_
        refine lv_aload_n hx hb dX12_race_20 rfl (lv_at hl 0 rfl) ?_
        refine z_get C0 hP (C := RX12) (T := TX12) (N := 21) (ci := 10) (index := 109) (k := 92) (ref := "WetSuitPedalsShoesModel") (zk_lt (rfl : zk 92 = 10) (by decide)) (zd_10 E (rfl : zk 92 = 10) _) rfl (zmi inU_12) 13 (by decide) (zm flRX12_109) rfl (v := .int (nI q)) (congrArg (fun z => some (Value.int z)) (h131)) dX12_race_21 ?_
        refine lv_isub hx hb dX12_race_24 ?_
        refine lv_istore_n (lv' := [(2, .int ((-1000 : Int32) - (nI q))), (0, .ref (E.1 92)), (1, .int (nI k))]) hx hb dX12_race_25 rfl hl (by decide) rfl (fun ls hl => ?_)
        refine lv_iinc (v := (nI (k + 1))) (lv' := [(1, .int (nI (k + 1))), (2, .int ((-1000 : Int32) - (nI q))), (0, .ref (E.1 92))]) hx hb dX12_race_26 hl (k := 2) rfl (z_inc (by decide)) (by decide) rfl (fun ls hl => ?_)
        refine lv_iload_n hx hb dX12_race_29 rfl (lv_at hl 1 rfl) ?_
        refine lv_bipush (v := (-9 : Int32)) hx hb dX12_race_30 (by decide) ?_
        refine lv_icmp_ne (tgt := 46) hx hb dX12_race_32 (by decide) (fun c_32 => ?_) (fun c_32 => ?_)
        · skip
          refine lv_aload_n hx hb dX12_race_46 rfl (lv_at hl 2 rfl) ?_
          refine z_get C0 hP (C := RX12) (T := TX12) (N := 21) (ci := 10) (index := 9) (k := 92) (ref := "WetSuitPedalsShoesModel") (zk_lt (rfl : zk 92 = 10) (by decide)) (zd_10 E (rfl : zk 92 = 10) _) rfl (zmi inU_12) 0 (by decide) (zm flRX12_9) rfl (v := .ref (E.1 93)) (rfl) dX12_race_47 ?_
          refine lv_aload_n hx hb dX12_race_50 rfl (lv_at hl 2 rfl) ?_
          refine z_get C0 hP (C := RX12) (T := TX12) (N := 21) (ci := 10) (index := 19) (k := 92) (ref := "WetSuitPedalsShoesModel") (zk_lt (rfl : zk 92 = 10) (by decide)) (zd_10 E (rfl : zk 92 = 10) _) rfl (zmi inU_12) 3 (by decide) (zm flRX12_19) rfl (v := .ref (E.1 96)) (rfl) dX12_race_51 ?_
          refine z_Sv C0 hP hD hA hS (As := [.ref (E.1 93), .ref (E.1 96)]) (rest := []) (c_X12_lays l E _ 93 96 z_lit_Arr102_93 z_lit_Arr102_96 (by decide)) (va_cwS 2 hts (zgS zbw mlRX12_149 stX12_lays iniRX12 coX12_lays) rfl rfl rfl (by decide +kernel) ⟨Nat.le_of_ble_eq_true rfl, Nat.le_of_ble_eq_true rfl⟩) rfl hl.1 rfl (Nat.le_of_ble_eq_true rfl) dX12_race_54 ⟨Nat.zero_le _, Nat.zero_le _⟩ (fun G7 H locs hw7 hP hS => ?_)
          obtain ⟨hF7, hcp7⟩ := hw7
          refine lv_aload_n hx hb dX12_race_57 rfl (lv_at hl 2 rfl) ?_
          refine lv_iconst (v := (0 : Int32)) hx hb dX12_race_58 (by decide) ?_
          refine z_put C0 hP hD hS (C := RX12) (T := TX12) (N := 21) (ci := 10) (index := 109) (k := 92) (ref := "WetSuitPedalsShoesModel") (F := G1 92) (ty := .int) (hF7 _ (by decide)) tyX12 tyX12_ok nmX12 (zk_lt (rfl : zk 92 = 10) (by decide)) (zd_10 E (rfl : zk 92 = 10) _) rfl (zmi inU_12) 13 (by decide) (zm flRX12_109) rfl rfl (by decide +kernel) (by rfl) rfl (by show 13 < 21; decide) (upd (G1 92) 13 (0 : Int32)) ((zd_10 E (rfl : zk 92 = 10) _).trans (rfl)) dX12_race_59 (fun H locs hP hS => ?_)
          refine lv_iload_n hx hb dX12_race_62 rfl (lv_at hl 1 rfl) ?_
          refine lv_bipush (v := (-9 : Int32)) hx hb dX12_race_63 (by decide) ?_
          refine lv_icmp_ne (tgt := 128) hx hb dX12_race_65 (by decide) (fun c_65 => ?_) (fun c_65 => ?_)
          · skip
            refine lv_aload_n hx hb dX12_race_128 rfl (lv_at hl 2 rfl) ?_
            refine lv_iconst (v := (0 : Int32)) hx hb dX12_race_129 (by decide) ?_
            refine z_put C0 hP hD hS (C := RX12) (T := TX12) (N := 21) (ci := 10) (index := 105) (k := 92) (ref := "WetSuitPedalsShoesModel") (F := (upd (G1 92) 13 (0 : Int32))) (ty := .int) (g1_s _ _ _) tyX12 tyX12_ok nmX12 (zk_lt (rfl : zk 92 = 10) (by decide)) (zd_10 E (rfl : zk 92 = 10) _) rfl (zmi inU_12) 8 (by decide) (zm flRX12_105) rfl rfl (by decide +kernel) (by rfl) rfl (by show 8 < 21; decide) (upd (upd (G1 92) 13 (0 : Int32)) 8 (0 : Int32)) ((zd_10 E (rfl : zk 92 = 10) _).trans (rfl)) dX12_race_130 (fun H locs hP hS => ?_)
            have hP := zP_eq (g1_t _ _ _ _ : _ = (g1 G7 92 (upd (upd (G1 92) 13 (0 : Int32)) 8 (0 : Int32)))) hP
            refine lv_iload_n hx hb dX12_race_133 rfl (lv_at hl 1 rfl) ?_
            refine lv_bipush (v := (-9 : Int32)) hx hb dX12_race_134 (by decide) ?_
            refine lv_icmp_ne (tgt := 143) hx hb dX12_race_136 (by decide) (fun c_136 => ?_) (fun c_136 => ?_)
            · skip
              refine lv_iload_n hx hb dX12_race_143 rfl (lv_at hl 1 rfl) ?_
              subst hQ_
              exact z_iret C0 hP hS (v := ((-1000 : Int32) - (nI q))) (by have hcf := g_f1 hga hsp hp0; exact ⟨r, n, na, Or.inl ⟨by rw [hcf]; exact nI_n9 (by omega), by rw [hcf], rfl, rfl, rfl⟩, (fun j _ => congrFun ((g1_n (by decide)).trans ((hF7 _ (by decide)).trans ((hF1 _ (by decide)).trans ((hFc _ (by decide)).trans (hM))))) j), (fun k hk => (g1_n (by omega)).trans ((hF7 k (by omega)).trans ((hF1 k (by omega)).trans (hFc k (by omega))))), (fun x a b c => (congrFun (g1_s _ _ _) x).trans ((pk_un c).trans ((pk_un a).trans ((hr91 x a b).trans ((h92 x a b).trans (rfl)))))), (congrFun (g1_s _ _ _) _).trans (pk_us)⟩) dX12_race_144
            · exact absurd c_136 (z_m9 (c := 1000) (by omega) (by decide))
          · exact absurd c_65 (z_m9 (c := 1000) (by omega) (by decide))
        · exact absurd c_32 (z_m9 (c := 1000) (by omega) (by decide))
  exact cut_10 (_ + 1) 0 0 m0 (g1 G 92 (upd (G 92) 13 (0 : Int32))) _ _ _ (by rfl) (by exact fun j hj => absurd hj (Nat.not_lt_zero j)) (by exact g_at_0 L) (by omega) (by omega) (by exact (congrFun (g1_s _ _ _) _).trans (pk_us)) (by exact (congrFun (g1_s _ _ _) _).trans ((pk_un (by decide)).trans (hm0))) (by exact fun k hk => g1_n (by omega)) (by exact fun x a b => (congrFun (g1_s _ _ _) x).trans (pk_un a)) hP hS (lv_sub hl [2, 1, 0] rfl) (Nat.lt_succ_self _)
