/-! laid by wip/whole/vcg.py -/
theorem flRX12_49 : Cond.fieldLink RX12 49 "WetSuitPedalsShoesModel" "so" "[I" ∈ zU := zU_m 826 (by decide +kernel) rfl
theorem flRX12_52 : Cond.fieldLink RX12 52 "WetSuitPedalsShoesModel" "then" "[I" ∈ zU := zU_m 827 (by decide +kernel) rfl
set_option maxHeartbeats 4000000 in
set_option maxRecDepth 100000 in
theorem c_X12_leastTries (l : Launch) (E : zE) (G : zG) (r : Nat → Int32) (n na : Nat) (athlete t : Int32) (hM : G 93 = r) (hrn : r 0 = nI n) (hrna : r 1 = nI na) (hn10 : n ≤ 10) (hna : na ≤ 5) (hkd : zKd r n) (hV : zVr r n na) : zMi l yX12_leastTries wsX12_leastTries ({ frames := 4, cells := 0, slots := 0, locals := 94 } : Room) E G [.ref (E.1 92), .int athlete, .int t] (fun r1 G1 => zQm (A_least r n na athlete t) G r1 G1) := by
  refine zOf (cc := cX12_leastTries) (nL := 8) (ret := (some .int)) RX12 (by decide) rfl rfl (Nat.le_of_ble_eq_true rfl) ?_
  intro p_ e_ s_ m_ a_ b_ me_ c_ ls C0 hP hS hl
  have hx := C0.1
  have hb := C0.2.1
  have hts := C0.2.2.2.2.1
  have hD : zD E (zA E s_.heap.size) := C0.2.2.2.2.2.2.2.2
  have hA : ∀ q : Nat, s_.heap.size ≤ q → zA E s_.heap.size q := fun q h => Or.inr h
  refine z_gen (fun Q_ hQ_ => ?_)
  have hl : lv_has ls 8 [(0, .ref (E.1 92)), (1, .int athlete), (2, .int t)] := hl
  refine lv_aload_n hx hb dX12_leastTries_0 rfl (lv_at hl 0 rfl) ?_
  refine lv_iload_n hx hb dX12_leastTries_1 rfl (lv_at hl 1 rfl) ?_
  refine z_Vi C0 hP hD hA hS (As := [.int athlete]) (rest := []) (k := 92) (c_X12_isAthlete l E _ na athlete ((congrFun (hM) _).trans (hrna)) (by omega)) (cwV 1 hts (zgV zbw mlRX12_136 imX12_isAthlete seX12_isAthlete iniRX12 coX12_isAthlete) rfl rfl rfl (by decide +kernel) ⟨Nat.le_of_ble_eq_true rfl, Nat.le_of_ble_eq_true rfl⟩) (zk_lt (rfl : zk 92 = 10) (by decide)) (zd_10 E (rfl : zk 92 = 10) _) rfl rfl rfl hl.1 rfl (Nat.le_of_ble_eq_true rfl) dX12_leastTries_2 ⟨Nat.zero_le _, Nat.zero_le _⟩ (fun r1 G1 H locs hw1 hP hS => ?_)
  rcases hw1 with ⟨rfl, rfl, ia, hia, rfl⟩ | ⟨rfl, rfl, hno1⟩
  · skip
    have hz_ia := zin_t hia (by omega)
    have hy_ia : zix (nI ia) = ia := zix_n (by omega)
    refine lv_if_ne (tgt := 14) hx hb dX12_leastTries_5 (by decide) (fun _ => ?_) (fun h_ => absurd h_ (by decide))
    refine lv_iload_n hx hb dX12_leastTries_14 rfl (lv_at hl 2 rfl) ?_
    refine lv_if_ge (tgt := 25) hx hb dX12_leastTries_15 (by decide) (fun c_15 => ?_) (fun c_15 => ?_)
    · skip
      have d_15 := Int32.not_lt.mpr c_15
      refine lv_iload_n hx hb dX12_leastTries_25 rfl (lv_at hl 2 rfl) ?_
      refine lv_sipush (v := (999 : Int32)) hx hb dX12_leastTries_26 (by decide) ?_
      refine lv_icmp_le (tgt := 39) hx hb dX12_leastTries_29 (by decide) (fun c_29 => ?_) (fun c_29 => ?_)
      · skip
        have d_29 := Int32.not_lt.mpr c_29
        have hqg := q_g_e (hV.2 ia hia)
        obtain ⟨tn, htn, rfl⟩ := z_rng (m := 1000) d_15 c_29 (by decide) (by decide)
        have hy_tn : zix (nI tn) = tn := zix_n (by omega)
        refine lv_iconst (v := (0 : Int32)) hx hb dX12_leastTries_39 (by decide) ?_
        refine lv_istore_n (lv' := [(3, .int (0 : Int32)), (0, .ref (E.1 92)), (1, .int (nI ia)), (2, .int (nI tn))]) hx hb dX12_leastTries_40 rfl hl (by decide) rfl (fun ls hl => ?_)
        have cut_41 : ∀ (fuel : Nat), ∀ (k : Nat) (Gc : zG) (H : Heap) (locs : List Loc) (ls : Array Slot), (k ≤ 3100) → (∀ k, (k < 106 ∨ 107 < k) → Gc k = G k) → (∀ j, j < k → Gc 106 j = 1000000000) → zP E Gc H → va_S (zA E s_.heap.size) s_.heap H locs → lv_has ls 8 [(0, .ref (E.1 92)), (1, .int (nI ia)), (2, .int (nI tn)), (3, .int (nI k))] → 3100 - k < fuel → W p_ l e_ ({ frames := 4, cells := 0, slots := 0, locals := 94 } : Room) s_ m_ a_ b_ me_ c_ H locs 0 0 Q_ (F0 m_ 41 ls []) := by
          intro fuel
          induction fuel with
          | zero =>
            intro k  Gc  H locs ls hk hFc hf hP hS hl hfu
            exact absurd hfu (Nat.not_lt_zero _)
          | succ fuel ih_41 =>
            intro k  Gc  H locs ls hk hFc hf hP hS hl hfu_41
            refine lv_iload_n hx hb dX12_leastTries_41 rfl (lv_at hl 3 rfl) ?_
            refine lv_sipush (v := (3100 : Int32)) hx hb dX12_leastTries_42 (by decide) ?_
            refine z_N_ge hx hb (a := k) (b := 3100) (tgt := 62) dX12_leastTries_45 rfl rfl (by omega) (by omega) (by decide) (fun c_45 => ?_) (fun c_45 => ?_)
            · skip
              refine lv_aload_n hx hb dX12_leastTries_62 rfl (lv_at hl 0 rfl) ?_
              refine z_get C0 hP (C := RX12) (T := TX12) (N := 21) (ci := 10) (index := 49) (k := 92) (ref := "WetSuitPedalsShoesModel") (zk_lt (rfl : zk 92 = 10) (by decide)) (zd_10 E (rfl : zk 92 = 10) _) rfl (zmi inU_12) 18 (by decide) (zm flRX12_49) rfl (v := .ref (E.1 106)) (rfl) dX12_leastTries_63 ?_
              refine lv_aload_n hx hb dX12_leastTries_66 rfl (lv_at hl 0 rfl) ?_
              refine z_get C0 hP (C := RX12) (T := TX12) (N := 21) (ci := 10) (index := 9) (k := 92) (ref := "WetSuitPedalsShoesModel") (zk_lt (rfl : zk 92 = 10) (by decide)) (zd_10 E (rfl : zk 92 = 10) _) rfl (zmi inU_12) 0 (by decide) (zm flRX12_9) rfl (v := .ref (E.1 93)) (rfl) dX12_leastTries_67 ?_
              refine lv_iload_n hx hb dX12_leastTries_70 rfl (lv_at hl 1 rfl) ?_
              refine lv_iconst (v := (3 : Int32)) hx hb dX12_leastTries_71 (by decide) ?_
              refine z_Si C0 hP hD hA hS (As := [.int (nI ia), .int (3 : Int32)]) (rest := [.ref (E.1 93), .ref (E.1 106)]) (c_X12_athleteAt l E _ ia 3) (va_cwS 2 hts (zgS zbw mlRX12_70 stX12_athleteAt iniRX12 coX12_athleteAt) rfl rfl rfl (by decide +kernel) ⟨Nat.le_of_ble_eq_true rfl, Nat.le_of_ble_eq_true rfl⟩) rfl hl.1 rfl (Nat.le_of_ble_eq_true rfl) dX12_leastTries_72 ⟨Nat.zero_le _, Nat.zero_le _⟩ (fun r2 G2 H locs hw2 hP hS => ?_)
              obtain ⟨hr2, rfl⟩ := hw2
              subst hr2
              refine z_eqi (y := (nI (35 + 4 * ia))) (congrArg nI (by omega)) ?_
              refine z_iald C0 hP (k := 93) (i := 35 + 4 * ia) (v := (nI (q_g r ia))) (rfl : zk 93 = 11) (Nat.lt_of_lt_of_eq (show 35 + 4 * ia < 102 by omega) (rfl : zl 93 = 102).symm) rfl dX12_leastTries_75 ((congrFun ((hFc _ (by decide)).trans (hM)) _).trans (hqg.1)) ?_
              refine lv_bipush (v := (31 : Int32)) hx hb dX12_leastTries_76 (by decide) ?_
              refine z_imul hx hb (a := q_g r ia) (b := 31) (n := (q_g r ia) * 31) dX12_leastTries_78 rfl rfl rfl ?_
              refine lv_iconst (v := (0 : Int32)) hx hb dX12_leastTries_79 (by decide) ?_
              refine z_iast C0 hP hD hS (k := 106) (i := (q_g r ia) * 31) (v := (0 : Int32)) (F := Gc 106) (rfl) (rfl : zk 106 = 11) (Nat.lt_of_lt_of_eq (show (q_g r ia) * 31 < 3100 by omega) (rfl : zl 106 = 3100).symm) rfl dX12_leastTries_80 (fun H locs hP hS => ?_)
              refine lv_iconst (v := (0 : Int32)) hx hb dX12_leastTries_81 (by decide) ?_
              refine lv_istore_n (lv' := [(3, .int (0 : Int32)), (0, .ref (E.1 92)), (1, .int (nI ia)), (2, .int (nI tn))]) hx hb dX12_leastTries_82 rfl hl (by decide) rfl (fun ls hl => ?_)
              have cut_83 : ∀ (fuel : Nat), ∀ (i : Nat) (Gc : zG) (H : Heap) (locs : List Loc) (ls : Array Slot), (i ≤ n) → (∀ k, (k < 106 ∨ 107 < k) → Gc k = G k) → (tab 1000000000 4000 (rch r ia i) (fun x g => Gc 106 (g * 31 + x))) → zP E Gc H → va_S (zA E s_.heap.size) s_.heap H locs → lv_has ls 8 [(0, .ref (E.1 92)), (1, .int (nI ia)), (2, .int (nI tn)), (3, .int (nI i))] → n - i < fuel → W p_ l e_ ({ frames := 4, cells := 0, slots := 0, locals := 94 } : Room) s_ m_ a_ b_ me_ c_ H locs 0 0 Q_ (F0 m_ 83 ls []) := by
                intro fuel
                induction fuel with
                | zero =>
                  intro i  Gc  H locs ls hin hFc hT hP hS hl hfu
                  exact absurd hfu (Nat.not_lt_zero _)
                | succ fuel ih_83 =>
                  intro i  Gc  H locs ls hin hFc hT hP hS hl hfu_83
                  refine lv_iload_n hx hb dX12_leastTries_83 rfl (lv_at hl 3 rfl) ?_
                  refine lv_aload_n hx hb dX12_leastTries_84 rfl (lv_at hl 0 rfl) ?_
                  refine z_get C0 hP (C := RX12) (T := TX12) (N := 21) (ci := 10) (index := 9) (k := 92) (ref := "WetSuitPedalsShoesModel") (zk_lt (rfl : zk 92 = 10) (by decide)) (zd_10 E (rfl : zk 92 = 10) _) rfl (zmi inU_12) 0 (by decide) (zm flRX12_9) rfl (v := .ref (E.1 93)) (rfl) dX12_leastTries_85 ?_
                  refine lv_iconst (v := (0 : Int32)) hx hb dX12_leastTries_88 (by decide) ?_
                  refine z_iald C0 hP (k := 93) (i := 0) (v := (nI n)) (rfl : zk 93 = 11) (Nat.lt_of_lt_of_eq (show 0 < 102 by decide) (rfl : zl 93 = 102).symm) rfl dX12_leastTries_89 ((congrFun ((hFc _ (by decide)).trans (hM)) _).trans (hrn)) ?_
                  refine z_N_ge hx hb (a := i) (b := n) (tgt := 284) dX12_leastTries_90 rfl rfl (by omega) (by omega) (by decide) (fun c_90 => ?_) (fun c_90 => ?_)
                  · skip
                    have e9 : i = n := by omega
                    rw [e9] at hT
                    refine lv_iconst (v := (0 : Int32)) hx hb dX12_leastTries_284 (by decide) ?_
                    refine lv_istore_n (lv' := [(3, .int (0 : Int32)), (0, .ref (E.1 92)), (1, .int (nI ia)), (2, .int (nI tn))]) hx hb dX12_leastTries_285 rfl hl (by decide) rfl (fun ls hl => ?_)
                    have cut_286 : ∀ (fuel : Nat), ∀ (m : Nat) (H : Heap) (locs : List Loc) (ls : Array Slot), (m ≤ 31) → (∀ y, y < m → ∀ z, z < 100 → ¬ Gc 106 (z * 31 + y) ≤ nI tn) → zP E Gc H → va_S (zA E s_.heap.size) s_.heap H locs → lv_has ls 8 [(0, .ref (E.1 92)), (1, .int (nI ia)), (2, .int (nI tn)), (3, .int (nI m))] → 31 - m < fuel → W p_ l e_ ({ frames := 4, cells := 0, slots := 0, locals := 94 } : Room) s_ m_ a_ b_ me_ c_ H locs 0 0 Q_ (F0 m_ 286 ls []) := by
                      intro fuel
                      induction fuel with
                      | zero =>
                        intro m  H locs ls hm9 hq hP hS hl hfu
                        exact absurd hfu (Nat.not_lt_zero _)
                      | succ fuel ih_286 =>
                        intro m  H locs ls hm9 hq hP hS hl hfu_286
                        refine lv_iload_n hx hb dX12_leastTries_286 rfl (lv_at hl 3 rfl) ?_
                        refine lv_bipush (v := (31 : Int32)) hx hb dX12_leastTries_287 (by decide) ?_
                        refine z_N_ge hx hb (a := m) (b := 31) (tgt := 332) dX12_leastTries_289 rfl rfl (by omega) (by omega) (by decide) (fun c_289 => ?_) (fun c_289 => ?_)
                        · skip
                          refine lv_bipush (v := (-9 : Int32)) hx hb dX12_leastTries_332 (by decide) ?_
                          subst hQ_
                          exact z_iret C0 hP hS (v := (-9 : Int32)) (by have e7 := q_lt_e (lt_n hV.1 (hV.2 ia hia) hn10 hT (by omega) (show tn ≤ 4000 by omega) (fun y hy z hz => hq y (by omega) z hz)); exact zQm_of (k := 0) (by simp [A_least, hz_ia, hy_ia, d_15, d_29, hy_tn, c_45, c_90, c_289, e7]) (fun k hk => hFc k (by omega)) (hFc _ (by decide))) dX12_leastTries_334
                        · skip
                          refine lv_iconst (v := (0 : Int32)) hx hb dX12_leastTries_292 (by decide) ?_
                          refine lv_istore (lv' := [(4, .int (0 : Int32)), (0, .ref (E.1 92)), (1, .int (nI ia)), (2, .int (nI tn)), (3, .int (nI m))]) hx hb dX12_leastTries_293 hl (by decide) rfl (fun ls hl => ?_)
                          have cut_295 : ∀ (fuel : Nat), ∀ (g : Nat) (H : Heap) (locs : List Loc) (ls : Array Slot), (g ≤ 100) → (∀ z, z < g → ¬ Gc 106 (z * 31 + m) ≤ nI tn) → zP E Gc H → va_S (zA E s_.heap.size) s_.heap H locs → lv_has ls 8 [(0, .ref (E.1 92)), (1, .int (nI ia)), (2, .int (nI tn)), (3, .int (nI m)), (4, .int (nI g))] → 100 - g < fuel → W p_ l e_ ({ frames := 4, cells := 0, slots := 0, locals := 94 } : Room) s_ m_ a_ b_ me_ c_ H locs 0 0 Q_ (F0 m_ 295 ls []) := by
                            intro fuel
                            induction fuel with
                            | zero =>
                              intro g  H locs ls hg9 hq2 hP hS hl hfu
                              exact absurd hfu (Nat.not_lt_zero _)
                            | succ fuel ih_295 =>
                              intro g  H locs ls hg9 hq2 hP hS hl hfu_295
                              refine lv_iload hx hb dX12_leastTries_295 (lv_at hl 4 rfl) ?_
                              refine lv_bipush (v := (100 : Int32)) hx hb dX12_leastTries_297 (by decide) ?_
                              refine z_N_ge hx hb (a := g) (b := 100) (tgt := 326) dX12_leastTries_299 rfl rfl (by omega) (by omega) (by decide) (fun c_299 => ?_) (fun c_299 => ?_)
                              · skip
                                refine lv_iinc (v := (nI (m + 1))) (lv' := [(3, .int (nI (m + 1))), (0, .ref (E.1 92)), (1, .int (nI ia)), (2, .int (nI tn)), (4, .int (nI g))]) hx hb dX12_leastTries_326 hl (k := 3) rfl (z_inc (by decide)) (by decide) rfl (fun ls hl => ?_)
                                refine lv_goto (tgt := 286) hx hb dX12_leastTries_329 (by decide) ?_
                                exact ih_286 (m + 1) _ _ _ (by first | assumption | omega) (by intro y h z hz; rcases Nat.lt_or_ge y m with q9 | q9; (exact hq y q9 z hz); (rw [show y = m by omega]; exact hq2 z (by omega))) hP hS (lv_sub hl [1, 2, 3, 0] rfl) (by omega)
                              · skip
                                refine lv_aload_n hx hb dX12_leastTries_302 rfl (lv_at hl 0 rfl) ?_
                                refine z_get C0 hP (C := RX12) (T := TX12) (N := 21) (ci := 10) (index := 49) (k := 92) (ref := "WetSuitPedalsShoesModel") (zk_lt (rfl : zk 92 = 10) (by decide)) (zd_10 E (rfl : zk 92 = 10) _) rfl (zmi inU_12) 18 (by decide) (zm flRX12_49) rfl (v := .ref (E.1 106)) (rfl) dX12_leastTries_303 ?_
                                refine lv_iload hx hb dX12_leastTries_306 (lv_at hl 4 rfl) ?_
                                refine lv_bipush (v := (31 : Int32)) hx hb dX12_leastTries_308 (by decide) ?_
                                refine z_imul hx hb (a := g) (b := 31) (n := g * 31) dX12_leastTries_310 rfl rfl rfl ?_
                                refine lv_iload_n hx hb dX12_leastTries_311 rfl (lv_at hl 3 rfl) ?_
                                refine z_iadd hx hb (a := g * 31) (b := m) (n := (g * 31) + m) dX12_leastTries_312 rfl rfl rfl ?_
                                refine z_iald C0 hP (k := 106) (i := (g * 31) + m) (v := (Gc 106 ((g * 31) + m))) (rfl : zk 106 = 11) (Nat.lt_of_lt_of_eq (show (g * 31) + m < 3100 by omega) (rfl : zl 106 = 3100).symm) rfl dX12_leastTries_313 (rfl) ?_
                                refine lv_iload_n hx hb dX12_leastTries_314 rfl (lv_at hl 2 rfl) ?_
                                refine lv_icmp_gt (tgt := 320) hx hb dX12_leastTries_315 (by decide) (fun c_315 => ?_) (fun c_315 => ?_)
                                · skip
                                  refine lv_iinc (v := (nI (g + 1))) (lv' := [(4, .int (nI (g + 1))), (0, .ref (E.1 92)), (1, .int (nI ia)), (2, .int (nI tn)), (3, .int (nI m))]) hx hb dX12_leastTries_320 hl (k := 4) rfl (z_inc (by decide)) (by decide) rfl (fun ls hl => ?_)
                                  refine lv_goto (tgt := 295) hx hb dX12_leastTries_323 (by decide) ?_
                                  exact ih_295 (g + 1) _ _ _ (by first | assumption | omega) (by intro z h; rcases Nat.lt_or_ge z g with q9 | q9; (exact hq2 z q9); (rw [show z = g by omega]; exact Int32.not_le.mpr c_315)) hP hS (lv_sub hl [1, 2, 3, 4, 0] rfl) (by omega)
                                · skip
                                  refine lv_iload_n hx hb dX12_leastTries_318 rfl (lv_at hl 3 rfl) ?_
                                  subst hQ_
                                  exact z_iret C0 hP hS (v := (nI m)) (by have e7 := q_lt_e (lt_y (x := m) (g := g) hV.1 (hV.2 ia hia) hn10 hT (nI_lt (b := 1000000000) (by omega) (by decide)) (by omega) (show tn ≤ 4000 by omega) (by omega) (by omega) (Int32.not_lt.mp c_315) hq); exact zQm_of (k := 0) (by simp [A_least, hz_ia, hy_ia, d_15, d_29, hy_tn, c_45, c_90, c_289, c_299, c_315, e7]) (fun k hk => hFc k (by omega)) (hFc _ (by decide))) dX12_leastTries_319
                          exact cut_295 (_ + 1) 0 _ _ _ (by first | assumption | omega) (by exact fun z h => absurd h (Nat.not_lt_zero z)) hP hS (lv_sub hl [1, 2, 3, 4, 0] rfl) (Nat.lt_succ_self _)
                    exact cut_286 (_ + 1) 0 _ _ _ (by first | assumption | omega) (by exact fun y h => absurd h (Nat.not_lt_zero y)) hP hS (lv_sub hl [1, 2, 3, 0] rfl) (Nat.lt_succ_self _)
                  · skip
                    refine lv_iconst (v := (0 : Int32)) hx hb dX12_leastTries_93 (by decide) ?_
                    refine lv_istore (lv' := [(4, .int (0 : Int32)), (0, .ref (E.1 92)), (1, .int (nI ia)), (2, .int (nI tn)), (3, .int (nI i))]) hx hb dX12_leastTries_94 hl (by decide) rfl (fun ls hl => ?_)
                    have cut_96 : ∀ (fuel : Nat), ∀ (k : Nat) (Gd : zG) (H : Heap) (locs : List Loc) (ls : Array Slot), (k ≤ 3100) → (∀ k, (k < 106 ∨ 107 < k) → Gd k = G k) → (tab 1000000000 4000 (rch r ia i) (fun x g => Gd 106 (g * 31 + x))) → (∀ j, j < k → Gd 107 j = 1000000000) → zP E Gd H → va_S (zA E s_.heap.size) s_.heap H locs → lv_has ls 8 [(0, .ref (E.1 92)), (1, .int (nI ia)), (2, .int (nI tn)), (3, .int (nI i)), (4, .int (nI k))] → 3100 - k < fuel → W p_ l e_ ({ frames := 4, cells := 0, slots := 0, locals := 94 } : Room) s_ m_ a_ b_ me_ c_ H locs 0 0 Q_ (F0 m_ 96 ls []) := by
                      intro fuel
                      induction fuel with
                      | zero =>
                        intro k  Gd  H locs ls hk hFd hSr hf hP hS hl hfu
                        exact absurd hfu (Nat.not_lt_zero _)
                      | succ fuel ih_96 =>
                        intro k  Gd  H locs ls hk hFd hSr hf hP hS hl hfu_96
                        refine lv_iload hx hb dX12_leastTries_96 (lv_at hl 4 rfl) ?_
                        refine lv_sipush (v := (3100 : Int32)) hx hb dX12_leastTries_98 (by decide) ?_
                        refine z_N_ge hx hb (a := k) (b := 3100) (tgt := 119) dX12_leastTries_101 rfl rfl (by omega) (by omega) (by decide) (fun c_101 => ?_) (fun c_101 => ?_)
                        · skip
                          refine lv_iconst (v := (0 : Int32)) hx hb dX12_leastTries_119 (by decide) ?_
                          refine lv_istore (lv' := [(4, .int (0 : Int32)), (0, .ref (E.1 92)), (1, .int (nI ia)), (2, .int (nI tn)), (3, .int (nI i))]) hx hb dX12_leastTries_120 hl (by decide) rfl (fun ls hl => ?_)
                          have cut_122 : ∀ (fuel : Nat), ∀ (k : Nat) (Ge : zG) (H : Heap) (locs : List Loc) (ls : Array Slot), (k ≤ 3100) → (∀ k, (k < 106 ∨ 107 < k) → Ge k = G k) → (tab 1000000000 4000 (rch r ia i) (fun x g => Ge 106 (g * 31 + x))) → (tab 1000000000 4000 (rcp r ia i (fun y z w => z * 31 + y < k)) (fun x g => Ge 107 (g * 31 + x))) → zP E Ge H → va_S (zA E s_.heap.size) s_.heap H locs → lv_has ls 8 [(0, .ref (E.1 92)), (1, .int (nI ia)), (2, .int (nI tn)), (3, .int (nI i)), (4, .int (nI k))] → 3100 - k < fuel → W p_ l e_ ({ frames := 4, cells := 0, slots := 0, locals := 94 } : Room) s_ m_ a_ b_ me_ c_ H locs 0 0 Q_ (F0 m_ 122 ls []) := by
                            intro fuel
                            induction fuel with
                            | zero =>
                              intro k  Ge  H locs ls hk hFe hSr hth hP hS hl hfu
                              exact absurd hfu (Nat.not_lt_zero _)
                            | succ fuel ih_122 =>
                              intro k  Ge  H locs ls hk hFe hSr hth hP hS hl hfu_122
                              refine lv_iload hx hb dX12_leastTries_122 (lv_at hl 4 rfl) ?_
                              refine lv_sipush (v := (3100 : Int32)) hx hb dX12_leastTries_124 (by decide) ?_
                              refine z_N_ge hx hb (a := k) (b := 3100) (tgt := 247) dX12_leastTries_127 rfl rfl (by omega) (by omega) (by decide) (fun c_127 => ?_) (fun c_127 => ?_)
                              · skip
                                refine lv_iconst (v := (0 : Int32)) hx hb dX12_leastTries_247 (by decide) ?_
                                refine lv_istore (lv' := [(4, .int (0 : Int32)), (0, .ref (E.1 92)), (1, .int (nI ia)), (2, .int (nI tn)), (3, .int (nI i))]) hx hb dX12_leastTries_248 hl (by decide) rfl (fun ls hl => ?_)
                                have cut_250 : ∀ (fuel : Nat), ∀ (k : Nat) (Gg : zG) (H : Heap) (locs : List Loc) (ls : Array Slot), (k ≤ 3100) → (∀ k, (k < 106 ∨ 107 < k) → Gg k = G k) → (tab 1000000000 4000 (rch r ia (i + 1)) (fun x g => Gg 107 (g * 31 + x))) → (∀ j, j < k → Gg 106 j = Gg 107 j) → zP E Gg H → va_S (zA E s_.heap.size) s_.heap H locs → lv_has ls 8 [(0, .ref (E.1 92)), (1, .int (nI ia)), (2, .int (nI tn)), (3, .int (nI i)), (4, .int (nI k))] → 3100 - k < fuel → W p_ l e_ ({ frames := 4, cells := 0, slots := 0, locals := 94 } : Room) s_ m_ a_ b_ me_ c_ H locs 0 0 Q_ (F0 m_ 250 ls []) := by
                                  intro fuel
                                  induction fuel with
                                  | zero =>
                                    intro k  Gg  H locs ls hk hFg hth3 hc hP hS hl hfu
                                    exact absurd hfu (Nat.not_lt_zero _)
                                  | succ fuel ih_250 =>
                                    intro k  Gg  H locs ls hk hFg hth3 hc hP hS hl hfu_250
                                    refine lv_iload hx hb dX12_leastTries_250 (lv_at hl 4 rfl) ?_
                                    refine lv_sipush (v := (3100 : Int32)) hx hb dX12_leastTries_252 (by decide) ?_
                                    refine z_N_ge hx hb (a := k) (b := 3100) (tgt := 278) dX12_leastTries_255 rfl rfl (by omega) (by omega) (by decide) (fun c_255 => ?_) (fun c_255 => ?_)
                                    · skip
                                      refine lv_iinc (v := (nI (i + 1))) (lv' := [(3, .int (nI (i + 1))), (0, .ref (E.1 92)), (1, .int (nI ia)), (2, .int (nI tn)), (4, .int (nI k))]) hx hb dX12_leastTries_278 hl (k := 3) rfl (z_inc (by decide)) (by decide) rfl (fun ls hl => ?_)
                                      refine lv_goto (tgt := 83) hx hb dX12_leastTries_281 (by decide) ?_
                                      exact ih_83 (i + 1) Gg _ _ _ (by first | assumption | omega) (by exact fun k hk => hFg k (by omega)) (by exact tab_ext hth3 (fun _ _ _ _ _ => Iff.rfl) (fun x g hx hg => hc _ (by omega))) hP hS (lv_sub hl [1, 2, 3, 0] rfl) (by omega)
                                    · skip
                                      refine lv_aload_n hx hb dX12_leastTries_258 rfl (lv_at hl 0 rfl) ?_
                                      refine z_get C0 hP (C := RX12) (T := TX12) (N := 21) (ci := 10) (index := 49) (k := 92) (ref := "WetSuitPedalsShoesModel") (zk_lt (rfl : zk 92 = 10) (by decide)) (zd_10 E (rfl : zk 92 = 10) _) rfl (zmi inU_12) 18 (by decide) (zm flRX12_49) rfl (v := .ref (E.1 106)) (rfl) dX12_leastTries_259 ?_
                                      refine lv_iload hx hb dX12_leastTries_262 (lv_at hl 4 rfl) ?_
                                      refine lv_aload_n hx hb dX12_leastTries_264 rfl (lv_at hl 0 rfl) ?_
                                      refine z_get C0 hP (C := RX12) (T := TX12) (N := 21) (ci := 10) (index := 52) (k := 92) (ref := "WetSuitPedalsShoesModel") (zk_lt (rfl : zk 92 = 10) (by decide)) (zd_10 E (rfl : zk 92 = 10) _) rfl (zmi inU_12) 19 (by decide) (zm flRX12_52) rfl (v := .ref (E.1 107)) (rfl) dX12_leastTries_265 ?_
                                      refine lv_iload hx hb dX12_leastTries_268 (lv_at hl 4 rfl) ?_
                                      refine z_iald C0 hP (k := 107) (i := k) (v := (Gg 107 k)) (rfl : zk 107 = 11) (Nat.lt_of_lt_of_eq (show k < 3100 by omega) (rfl : zl 107 = 3100).symm) rfl dX12_leastTries_270 (rfl) ?_
                                      refine z_iast C0 hP hD hS (k := 106) (i := k) (v := (Gg 107 k)) (F := Gg 106) (rfl) (rfl : zk 106 = 11) (Nat.lt_of_lt_of_eq (show k < 3100 by omega) (rfl : zl 106 = 3100).symm) rfl dX12_leastTries_271 (fun H locs hP hS => ?_)
                                      refine lv_iinc (v := (nI (k + 1))) (lv' := [(4, .int (nI (k + 1))), (0, .ref (E.1 92)), (1, .int (nI ia)), (2, .int (nI tn)), (3, .int (nI i))]) hx hb dX12_leastTries_272 hl (k := 4) rfl (z_inc (by decide)) (by decide) rfl (fun ls hl => ?_)
                                      refine lv_goto (tgt := 250) hx hb dX12_leastTries_275 (by decide) ?_
                                      exact ih_250 (k + 1) (g1 Gg 106 (upd (Gg 106) k (Gg 107 k))) _ _ _ (by first | assumption | omega) (by exact fun k hk => (g1_n (by omega)).trans (hFg k (by omega))) (by exact tab_ext hth3 (fun _ _ _ _ _ => Iff.rfl) (fun x g _ _ => congrFun (g1_n (by decide)) _)) (by intro j hj; exact (congrFun (g1_s _ _ _) j).trans ((s_up_l hc rfl j hj).trans (congrFun (g1_n (by decide)) j).symm)) hP hS (lv_sub hl [1, 2, 3, 4, 0] rfl) (by omega)
                                exact cut_250 (_ + 1) 0 Ge _ _ _ (by first | assumption | omega) (by exact fun k hk => hFe k (by omega)) (by exact tab_all hV.1 (hV.2 ia hia) hn10 (by omega) hth (fun y z w hy hz hw => by omega)) (by exact fun j hj => absurd hj (Nat.not_lt_zero j)) hP hS (lv_sub hl [1, 2, 3, 4, 0] rfl) (Nat.lt_succ_self _)
                              · skip
                                refine lv_iload hx hb dX12_leastTries_130 (lv_at hl 4 rfl) ?_
                                refine lv_bipush (v := (31 : Int32)) hx hb dX12_leastTries_132 (by decide) ?_
                                refine z_idiv hx hb (a := k) (b := 31) dX12_leastTries_134 rfl rfl (by omega) (by decide) (by decide) ?_
                                refine lv_istore (lv' := [(5, .int (nI (k / 31))), (0, .ref (E.1 92)), (1, .int (nI ia)), (2, .int (nI tn)), (3, .int (nI i)), (4, .int (nI k))]) hx hb dX12_leastTries_135 hl (by decide) rfl (fun ls hl => ?_)
                                refine lv_iconst (v := (0 : Int32)) hx hb dX12_leastTries_137 (by decide) ?_
                                refine lv_istore (lv' := [(6, .int (0 : Int32)), (5, .int (nI (k / 31))), (0, .ref (E.1 92)), (1, .int (nI ia)), (2, .int (nI tn)), (3, .int (nI i)), (4, .int (nI k))]) hx hb dX12_leastTries_138 hl (by decide) rfl (fun ls hl => ?_)
                                have cut_140 : ∀ (fuel : Nat), ∀ (h : Nat) (Gf : zG) (H : Heap) (locs : List Loc) (ls : Array Slot), (h ≤ 4) → (∀ k, (k < 106 ∨ 107 < k) → Gf k = G k) → (tab 1000000000 4000 (rch r ia i) (fun x g => Gf 106 (g * 31 + x))) → (tab 1000000000 4000 (rcp r ia i (fun y z w => z * 31 + y < k ∨ (z * 31 + y = k ∧ w < h))) (fun x g => Gf 107 (g * 31 + x))) → zP E Gf H → va_S (zA E s_.heap.size) s_.heap H locs → lv_has ls 8 [(0, .ref (E.1 92)), (1, .int (nI ia)), (2, .int (nI tn)), (3, .int (nI i)), (4, .int (nI k)), (5, .int (nI (k / 31))), (6, .int (nI h))] → 4 - h < fuel → W p_ l e_ ({ frames := 4, cells := 0, slots := 0, locals := 94 } : Room) s_ m_ a_ b_ me_ c_ H locs 0 0 Q_ (F0 m_ 140 ls []) := by
                                  intro fuel
                                  induction fuel with
                                  | zero =>
                                    intro h  Gf  H locs ls hh hFf hSr hth2 hP hS hl hfu
                                    exact absurd hfu (Nat.not_lt_zero _)
                                  | succ fuel ih_140 =>
                                    intro h  Gf  H locs ls hh hFf hSr hth2 hP hS hl hfu_140
                                    refine lv_iload hx hb dX12_leastTries_140 (lv_at hl 6 rfl) ?_
                                    refine lv_iconst (v := (4 : Int32)) hx hb dX12_leastTries_142 (by decide) ?_
                                    refine z_N_ge hx hb (a := h) (b := 4) (tgt := 241) dX12_leastTries_143 rfl rfl (by omega) (by omega) (by decide) (fun c_143 => ?_) (fun c_143 => ?_)
                                    · skip
                                      refine lv_iinc (v := (nI (k + 1))) (lv' := [(4, .int (nI (k + 1))), (0, .ref (E.1 92)), (1, .int (nI ia)), (2, .int (nI tn)), (3, .int (nI i)), (5, .int (nI (k / 31))), (6, .int (nI h))]) hx hb dX12_leastTries_241 hl (k := 4) rfl (z_inc (by decide)) (by decide) rfl (fun ls hl => ?_)
                                      refine lv_goto (tgt := 122) hx hb dX12_leastTries_244 (by decide) ?_
                                      exact ih_122 (k + 1) Gf _ _ _ (by first | assumption | omega) (by exact fun k hk => hFf k (by omega)) (by exact hSr) (by first | exact tab_P hV.1 (hV.2 ia hia) hn10 (by omega) hth2 (fun y z w _ _ hw => by omega) (fun _ _ _ _ => rfl) | exact tab_sk (Q := fun w => w < 4) hV.1 (hV.2 ia hia) (by omega) hth2 (tab_no (x := k % 31) (g := k / 31) hSr (by omega) (by omega) (by show ¬ Gf 106 (k / 31 * 31 + k % 31) ≤ nI 4000; rw [show k / 31 * 31 + k % 31 = k by omega]; exact fun q => d_155 (Int32.lt_of_le_of_lt q (by decide))) (fun s q => by have := rch_b hV.1 (hV.2 ia hia) (show i ≤ n by omega) q; omega) (by omega)) (fun y z w _ _ _ => by omega)) hP hS (lv_sub hl [1, 2, 3, 4, 0] rfl) (by omega)
                                    · skip
                                      refine lv_aload_n hx hb dX12_leastTries_146 rfl (lv_at hl 0 rfl) ?_
                                      refine z_get C0 hP (C := RX12) (T := TX12) (N := 21) (ci := 10) (index := 49) (k := 92) (ref := "WetSuitPedalsShoesModel") (zk_lt (rfl : zk 92 = 10) (by decide)) (zd_10 E (rfl : zk 92 = 10) _) rfl (zmi inU_12) 18 (by decide) (zm flRX12_49) rfl (v := .ref (E.1 106)) (rfl) dX12_leastTries_147 ?_
                                      refine lv_iload hx hb dX12_leastTries_150 (lv_at hl 4 rfl) ?_
                                      refine z_iald C0 hP (k := 106) (i := k) (v := (Gf 106 k)) (rfl : zk 106 = 11) (Nat.lt_of_lt_of_eq (show k < 3100 by omega) (rfl : zl 106 = 3100).symm) rfl dX12_leastTries_152 (rfl) ?_
                                      refine lv_ldc (v := (1000000000 : Int32)) hx hb C0.2.2.2.1 (hts _ (zm kkRX12_55)) dX12_leastTries_153 ?_
                                      refine lv_icmp_ge (tgt := 241) hx hb dX12_leastTries_155 (by decide) (fun c_155 => ?_) (fun c_155 => ?_)
                                      · skip
                                        have d_155 := Int32.not_lt.mpr c_155
                                        refine lv_iinc (v := (nI (k + 1))) (lv' := [(4, .int (nI (k + 1))), (0, .ref (E.1 92)), (1, .int (nI ia)), (2, .int (nI tn)), (3, .int (nI i)), (5, .int (nI (k / 31))), (6, .int (nI h))]) hx hb dX12_leastTries_241 hl (k := 4) rfl (z_inc (by decide)) (by decide) rfl (fun ls hl => ?_)
                                        refine lv_goto (tgt := 122) hx hb dX12_leastTries_244 (by decide) ?_
                                        exact ih_122 (k + 1) Gf _ _ _ (by first | assumption | omega) (by exact fun k hk => hFf k (by omega)) (by exact hSr) (by first | exact tab_P hV.1 (hV.2 ia hia) hn10 (by omega) hth2 (fun y z w _ _ hw => by omega) (fun _ _ _ _ => rfl) | exact tab_sk (Q := fun w => w < 4) hV.1 (hV.2 ia hia) (by omega) hth2 (tab_no (x := k % 31) (g := k / 31) hSr (by omega) (by omega) (by show ¬ Gf 106 (k / 31 * 31 + k % 31) ≤ nI 4000; rw [show k / 31 * 31 + k % 31 = k by omega]; exact fun q => d_155 (Int32.lt_of_le_of_lt q (by decide))) (fun s q => by have := rch_b hV.1 (hV.2 ia hia) (show i ≤ n by omega) q; omega) (by omega)) (fun y z w _ _ _ => by omega)) hP hS (lv_sub hl [1, 2, 3, 4, 0] rfl) (by omega)
                                      · skip
                                        have d_155 := Int32.not_le.mp c_155
                                        have e31 : k / 31 * 31 + k % 31 = k := by omega
                                        have hne : (fun x g => Gf 106 (g * 31 + x)) (k % 31) (k / 31) ≠ 1000000000 := fun q => by have q2 : Gf 106 (k / 31 * 31 + k % 31) = 1000000000 := q; rw [e31] at q2; rw [q2] at d_155; exact Int32.lt_irrefl d_155
                                        obtain ⟨s, hs1, hs2, hs3, hs4, hs5⟩ := tab_in hV.1 (hV.2 ia hia) (show i ≤ n by omega) hSr (show k % 31 < 31 by omega) (show k / 31 < 100 by omega) hne
                                        have hs1 : Gf 106 k = nI s := by (have q : Gf 106 (k / 31 * 31 + k % 31) = nI s := hs1); rw [e31] at q; exact q
                                        have hi : i < n := by omega
                                        have hg : k / 31 < 100 := by omega
                                        have hv : h < 4 := by omega
                                        refine lv_iload hx hb dX12_leastTries_158 (lv_at hl 4 rfl) ?_
                                        refine lv_bipush (v := (31 : Int32)) hx hb dX12_leastTries_160 (by decide) ?_
                                        refine z_irem hx hb (a := k) (b := 31) dX12_leastTries_162 rfl rfl (by omega) (by decide) (by decide) ?_
                                        refine lv_iload hx hb dX12_leastTries_163 (lv_at hl 6 rfl) ?_
                                        refine z_iadd hx hb (a := k % 31) (b := h) (n := (k % 31) + h) dX12_leastTries_165 rfl rfl rfl ?_
                                        refine lv_bipush (v := (31 : Int32)) hx hb dX12_leastTries_166 (by decide) ?_
                                        refine z_N_ge hx hb (a := (k % 31) + h) (b := 31) (tgt := 241) dX12_leastTries_168 rfl rfl (by omega) (by omega) (by decide) (fun c_168 => ?_) (fun c_168 => ?_)
                                        · exact absurd c_168 (by omega)
                                        · skip
                                          refine lv_aload_n hx hb dX12_leastTries_171 rfl (lv_at hl 0 rfl) ?_
                                          refine z_get C0 hP (C := RX12) (T := TX12) (N := 21) (ci := 10) (index := 9) (k := 92) (ref := "WetSuitPedalsShoesModel") (zk_lt (rfl : zk 92 = 10) (by decide)) (zd_10 E (rfl : zk 92 = 10) _) rfl (zmi inU_12) 0 (by decide) (zm flRX12_9) rfl (v := .ref (E.1 93)) (rfl) dX12_leastTries_172 ?_
                                          refine lv_iload_n hx hb dX12_leastTries_175 rfl (lv_at hl 3 rfl) ?_
                                          refine lv_iload hx hb dX12_leastTries_176 (lv_at hl 5 rfl) ?_
                                          refine lv_iload hx hb dX12_leastTries_178 (lv_at hl 6 rfl) ?_
                                          refine z_Si C0 hP hD hA hS (As := [.ref (E.1 93), .int (nI i), .int (nI (k / 31)), .int (nI h)]) (rest := []) (c_X12_legsBehind l E _ 93 i (nI (k / 31)) (nI h) z_lit_Arr102_93 (by omega)) (va_cwS 4 hts (zgS zbw mlRX12_98 stX12_legsBehind iniRX12 coX12_legsBehind) rfl rfl rfl (by decide +kernel) ⟨Nat.le_of_ble_eq_true rfl, Nat.le_of_ble_eq_true rfl⟩) rfl hl.1 rfl (Nat.le_of_ble_eq_true rfl) dX12_leastTries_180 ⟨Nat.zero_le _, Nat.zero_le _⟩ (fun r3 G3 H locs hw3 hP hS => ?_)
                                          obtain ⟨hr3, rfl⟩ := hw3
                                          have hr3 : m_leg (r (2 + 3 * i)) (r (4 + 3 * i)) (nI h) (nI (k / 31)) = _ := (congrArg (fun z_ : Nat → Int32 => m_leg (z_ (2 + 3 * i)) (z_ (4 + 3 * i)) (nI h) (nI (k / 31))) (show Gf 93 = r from (hFf _ (by decide)).trans (hM))).symm.trans hr3
                                          have hr3 : nI (p_leg r i (k / 31) h) = _ := (p_leg_e hV.1 hi hg hv).1.symm.trans hr3
                                          have hp8 := (p_leg_e hV.1 hi hg hv).2
                                          subst hr3
                                          refine lv_bipush (v := (31 : Int32)) hx hb dX12_leastTries_183 (by decide) ?_
                                          refine z_imul hx hb (a := p_leg r i (k / 31) h) (b := 31) (n := (p_leg r i (k / 31) h) * 31) dX12_leastTries_185 rfl rfl rfl ?_
                                          refine lv_iload hx hb dX12_leastTries_186 (lv_at hl 4 rfl) ?_
                                          refine lv_bipush (v := (31 : Int32)) hx hb dX12_leastTries_188 (by decide) ?_
                                          refine z_irem hx hb (a := k) (b := 31) dX12_leastTries_190 rfl rfl (by omega) (by decide) (by decide) ?_
                                          refine z_iadd hx hb (a := (p_leg r i (k / 31) h) * 31) (b := k % 31) (n := ((p_leg r i (k / 31) h) * 31) + (k % 31)) dX12_leastTries_191 rfl rfl rfl ?_
                                          refine lv_iload hx hb dX12_leastTries_192 (lv_at hl 6 rfl) ?_
                                          refine z_iadd hx hb (a := ((p_leg r i (k / 31) h) * 31) + (k % 31)) (b := h) (n := (((p_leg r i (k / 31) h) * 31) + (k % 31)) + h) dX12_leastTries_194 rfl rfl rfl ?_
                                          refine lv_istore (lv' := [(7, .int (nI ((((p_leg r i (k / 31) h) * 31) + (k % 31)) + h))), (0, .ref (E.1 92)), (1, .int (nI ia)), (2, .int (nI tn)), (3, .int (nI i)), (4, .int (nI k)), (5, .int (nI (k / 31))), (6, .int (nI h))]) hx hb dX12_leastTries_195 hl (by decide) rfl (fun ls hl => ?_)
                                          refine lv_aload_n hx hb dX12_leastTries_197 rfl (lv_at hl 1 rfl) ?_
                                          refine z_get C0 hP (C := RX12) (T := TX12) (N := 21) (ci := 10) (index := 52) (k := 92) (ref := "WetSuitPedalsShoesModel") (zk_lt (rfl : zk 92 = 10) (by decide)) (zd_10 E (rfl : zk 92 = 10) _) rfl (zmi inU_12) 19 (by decide) (zm flRX12_52) rfl (v := .ref (E.1 107)) (rfl) dX12_leastTries_198 ?_
                                          refine lv_iload hx hb dX12_leastTries_201 (lv_at hl 0 rfl) ?_
                                          refine lv_aload_n hx hb dX12_leastTries_203 rfl (lv_at hl 1 rfl) ?_
                                          refine z_get C0 hP (C := RX12) (T := TX12) (N := 21) (ci := 10) (index := 52) (k := 92) (ref := "WetSuitPedalsShoesModel") (zk_lt (rfl : zk 92 = 10) (by decide)) (zd_10 E (rfl : zk 92 = 10) _) rfl (zmi inU_12) 19 (by decide) (zm flRX12_52) rfl (v := .ref (E.1 107)) (rfl) dX12_leastTries_204 ?_
                                          refine lv_iload hx hb dX12_leastTries_207 (lv_at hl 0 rfl) ?_
                                          refine z_iald C0 hP (k := 107) (i := (((p_leg r i (k / 31) h) * 31) + (k % 31)) + h) (v := (Gf 107 ((((p_leg r i (k / 31) h) * 31) + (k % 31)) + h))) (rfl : zk 107 = 11) (Nat.lt_of_lt_of_eq (show (((p_leg r i (k / 31) h) * 31) + (k % 31)) + h < 3100 by omega) (rfl : zl 107 = 3100).symm) rfl dX12_leastTries_209 (rfl) ?_
                                          refine lv_aload_n hx hb dX12_leastTries_210 rfl (lv_at hl 1 rfl) ?_
                                          refine z_get C0 hP (C := RX12) (T := TX12) (N := 21) (ci := 10) (index := 49) (k := 92) (ref := "WetSuitPedalsShoesModel") (zk_lt (rfl : zk 92 = 10) (by decide)) (zd_10 E (rfl : zk 92 = 10) _) rfl (zmi inU_12) 18 (by decide) (zm flRX12_49) rfl (v := .ref (E.1 106)) (rfl) dX12_leastTries_211 ?_
                                          refine lv_iload hx hb dX12_leastTries_214 (lv_at hl 5 rfl) ?_
                                          refine z_iald C0 hP (k := 106) (i := k) (v := (Gf 106 k)) (rfl : zk 106 = 11) (Nat.lt_of_lt_of_eq (show k < 3100 by omega) (rfl : zl 106 = 3100).symm) rfl dX12_leastTries_216 (rfl) ?_
                                          refine lv_aload_n hx hb dX12_leastTries_217 rfl (lv_at hl 1 rfl) ?_
                                          refine z_get C0 hP (C := RX12) (T := TX12) (N := 21) (ci := 10) (index := 9) (k := 92) (ref := "WetSuitPedalsShoesModel") (zk_lt (rfl : zk 92 = 10) (by decide)) (zd_10 E (rfl : zk 92 = 10) _) rfl (zmi inU_12) 0 (by decide) (zm flRX12_9) rfl (v := .ref (E.1 93)) (rfl) dX12_leastTries_218 ?_
                                          refine lv_iload_n hx hb dX12_leastTries_221 rfl (lv_at hl 2 rfl) ?_
                                          refine lv_iload_n hx hb dX12_leastTries_222 rfl (lv_at hl 4 rfl) ?_
                                          refine lv_iload hx hb dX12_leastTries_223 (lv_at hl 6 rfl) ?_
                                          refine lv_iload hx hb dX12_leastTries_225 (lv_at hl 7 rfl) ?_
                                          refine z_Si C0 hP hD hA hS (As := [.ref (E.1 93), .int (nI ia), .int (nI i), .int (nI (k / 31)), .int (nI h)]) (rest := [.int (Gf 106 k), .int (Gf 107 ((((p_leg r i (k / 31) h) * 31) + (k % 31)) + h)), .int (nI ((((p_leg r i (k / 31) h) * 31) + (k % 31)) + h)), .ref (E.1 107)]) (c_X12_secondsBy l E _ 93 ia i (nI (k / 31)) (nI h) z_lit_Arr102_93 (by omega) (by omega)) (va_cwS 5 hts (zgS zbw mlRX12_94 stX12_secondsBy iniRX12 coX12_secondsBy) rfl rfl rfl (by decide +kernel) ⟨Nat.le_of_ble_eq_true rfl, Nat.le_of_ble_eq_true rfl⟩) rfl hl.1 rfl (Nat.le_of_ble_eq_true rfl) dX12_leastTries_227 ⟨Nat.zero_le _, Nat.zero_le _⟩ (fun r4 G4 H locs hw4 hP hS => ?_)
                                          obtain ⟨hr4, rfl⟩ := hw4
                                          have hr4 : s_sec (m_plain r ia i) (nI h) (nI (k / 31)) = _ := (congrArg (fun z_ : Nat → Int32 => s_sec (m_plain z_ ia i) (nI h) (nI (k / 31))) (show Gf 93 = r from (hFf _ (by decide)).trans (hM))).symm.trans hr4
                                          subst hr4
                                          refine lv_iadd hx hb dX12_leastTries_230 ?_
                                          refine z_eqi (y := (nI (s + q_s r ia i h (k / 31)))) (by rw [hs1, (q_s_e hV.1 (hV.2 ia hia) hi hv).1, nI_add]) ?_
                                          refine z_Si C0 hP hD hA hS (As := [.int (Gf 107 ((((p_leg r i (k / 31) h) * 31) + (k % 31)) + h)), .int (nI (s + q_s r ia i h (k / 31)))]) (rest := [.int (nI ((((p_leg r i (k / 31) h) * 31) + (k % 31)) + h)), .ref (E.1 107)]) (c_X12_least l E _ (Gf 107 ((((p_leg r i (k / 31) h) * 31) + (k % 31)) + h)) (nI (s + q_s r ia i h (k / 31)))) (va_cwS 2 hts (zgS zbw mlRX12_88 stX12_least iniRX12 coX12_least) rfl rfl rfl (by decide +kernel) ⟨Nat.le_of_ble_eq_true rfl, Nat.le_of_ble_eq_true rfl⟩) rfl hl.1 rfl (Nat.le_of_ble_eq_true rfl) dX12_leastTries_231 ⟨Nat.zero_le _, Nat.zero_le _⟩ (fun r5 G5 H locs hw5 hP hS => ?_)
                                          obtain ⟨rfl, rfl⟩ := hw5
                                          refine z_iast C0 hP hD hS (k := 107) (i := (((p_leg r i (k / 31) h) * 31) + (k % 31)) + h) (v := (s_min (Gf 107 ((((p_leg r i (k / 31) h) * 31) + (k % 31)) + h)) (nI (s + q_s r ia i h (k / 31))))) (F := Gf 107) (rfl) (rfl : zk 107 = 11) (Nat.lt_of_lt_of_eq (show (((p_leg r i (k / 31) h) * 31) + (k % 31)) + h < 3100 by omega) (rfl : zl 107 = 3100).symm) rfl dX12_leastTries_234 (fun H locs hP hS => ?_)
                                          refine lv_iinc (v := (nI (h + 1))) (lv' := [(6, .int (nI (h + 1))), (7, .int (nI ((((p_leg r i (k / 31) h) * 31) + (k % 31)) + h))), (0, .ref (E.1 92)), (1, .int (nI ia)), (2, .int (nI tn)), (3, .int (nI i)), (4, .int (nI k)), (5, .int (nI (k / 31)))]) hx hb dX12_leastTries_235 hl (k := 7) rfl (z_inc (by decide)) (by decide) rfl (fun ls hl => ?_)
                                          refine lv_goto (tgt := 140) hx hb dX12_leastTries_238 (by decide) ?_
                                          exact ih_140 (h + 1) (g1 Gf 107 (upd (Gf 107) ((((p_leg r i (k / 31) h) * 31) + (k % 31)) + h) (s_min (Gf 107 ((((p_leg r i (k / 31) h) * 31) + (k % 31)) + h)) (nI (s + q_s r ia i h (k / 31)))))) _ _ _ (by first | assumption | omega) (by exact fun k hk => (g1_n (by omega)).trans (hFf k (by omega))) (by exact tab_ext hSr (fun _ _ _ _ _ => Iff.rfl) (fun x g _ _ => congrFun (g1_n (by decide)) _)) (by have e8 : p_leg r i (k / 31) h * 31 + (k % 31 + h) = (((p_leg r i (k / 31) h) * 31) + (k % 31)) + h := (by omega); have h9 : (g1 Gf 107 (upd (Gf 107) ((((p_leg r i (k / 31) h) * 31) + (k % 31)) + h) (s_min (Gf 107 ((((p_leg r i (k / 31) h) * 31) + (k % 31)) + h)) (nI (s + q_s r ia i h (k / 31)))))) 107 (p_leg r i (k / 31) h * 31 + (k % 31 + h)) = s_min (Gf 107 ((((p_leg r i (k / 31) h) * 31) + (k % 31)) + h)) (nI (s + q_s r ia i h (k / 31))) := (congrFun (g1_s _ _ _) _).trans ((congrArg _ e8).trans pk_us); exact tab_go hV.1 (hV.2 ia hia) hn10 hi (by decide) hth2 hv hs2 hs3 (fun y z w hy hz hw => by omega) (fun y z hy hz q => (congrFun (g1_s _ _ _) _).trans (pk_un (fun e => q (by omega)))) (by rcases min_two (x := Gf 107 ((((p_leg r i (k / 31) h) * 31) + (k % 31)) + h)) (y := nI (s + q_s r ia i h (k / 31))) with ⟨q1, q2⟩ | ⟨q1, q2⟩; (exact Or.inl ⟨(h9.trans q1).trans (congrArg (Gf 107) e8.symm), by show ¬ _ < Gf 107 (p_leg r i (k / 31) h * 31 + (k % 31 + h)); rw [e8]; exact q2⟩); (exact Or.inr ⟨h9.trans q1, by show ¬ Gf 107 (p_leg r i (k / 31) h * 31 + (k % 31 + h)) < _; rw [e8]; exact q2⟩))) hP hS (lv_sub hl [2, 3, 4, 5, 6, 7, 0] rfl) (by omega)
                                exact cut_140 (_ + 1) 0 Ge _ _ _ (by first | assumption | omega) (by exact fun k hk => hFe k (by omega)) (by exact hSr) (by exact tab_P hV.1 (hV.2 ia hia) hn10 (by omega) hth (fun y z w _ _ _ => by omega) (fun _ _ _ _ => rfl)) hP hS (lv_sub hl [2, 3, 4, 5, 6, 1, 0] rfl) (Nat.lt_succ_self _)
                          exact cut_122 (_ + 1) 0 Gd _ _ _ (by first | assumption | omega) (by exact fun k hk => hFd k (by omega)) (by exact hSr) (by exact tab_0 (fun y z w q => absurd q (Nat.not_lt_zero _)) (fun x g hx hg => hf _ (by omega))) hP hS (lv_sub hl [1, 2, 3, 4, 0] rfl) (Nat.lt_succ_self _)
                        · skip
                          refine lv_aload_n hx hb dX12_leastTries_104 rfl (lv_at hl 0 rfl) ?_
                          refine z_get C0 hP (C := RX12) (T := TX12) (N := 21) (ci := 10) (index := 52) (k := 92) (ref := "WetSuitPedalsShoesModel") (zk_lt (rfl : zk 92 = 10) (by decide)) (zd_10 E (rfl : zk 92 = 10) _) rfl (zmi inU_12) 19 (by decide) (zm flRX12_52) rfl (v := .ref (E.1 107)) (rfl) dX12_leastTries_105 ?_
                          refine lv_iload hx hb dX12_leastTries_108 (lv_at hl 4 rfl) ?_
                          refine lv_ldc (v := (1000000000 : Int32)) hx hb C0.2.2.2.1 (hts _ (zm kkRX12_55)) dX12_leastTries_110 ?_
                          refine z_iast C0 hP hD hS (k := 107) (i := k) (v := (1000000000 : Int32)) (F := Gd 107) (rfl) (rfl : zk 107 = 11) (Nat.lt_of_lt_of_eq (show k < 3100 by omega) (rfl : zl 107 = 3100).symm) rfl dX12_leastTries_112 (fun H locs hP hS => ?_)
                          refine lv_iinc (v := (nI (k + 1))) (lv' := [(4, .int (nI (k + 1))), (0, .ref (E.1 92)), (1, .int (nI ia)), (2, .int (nI tn)), (3, .int (nI i))]) hx hb dX12_leastTries_113 hl (k := 4) rfl (z_inc (by decide)) (by decide) rfl (fun ls hl => ?_)
                          refine lv_goto (tgt := 96) hx hb dX12_leastTries_116 (by decide) ?_
                          exact ih_96 (k + 1) (g1 Gd 107 (upd (Gd 107) k (1000000000 : Int32))) _ _ _ (by first | assumption | omega) (by exact fun k hk => (g1_n (by omega)).trans (hFd k (by omega))) (by exact tab_ext hSr (fun _ _ _ _ _ => Iff.rfl) (fun x g _ _ => congrFun (g1_n (by decide)) _)) (by intro j hj; exact (congrFun (g1_s _ _ _) j).trans (s_up_l (g := fun _ => 1000000000) hf rfl j hj)) hP hS (lv_sub hl [1, 2, 3, 4, 0] rfl) (by omega)
                    exact cut_96 (_ + 1) 0 Gc _ _ _ (by first | assumption | omega) (by exact fun k hk => hFc k (by omega)) (by exact hT) (by exact fun j hj => absurd hj (Nat.not_lt_zero j)) hP hS (lv_sub hl [1, 2, 3, 4, 0] rfl) (Nat.lt_succ_self _)
              exact cut_83 (_ + 1) 0 (g1 Gc 106 (upd (Gc 106) ((q_g r ia) * 31) (0 : Int32))) _ _ _ (by first | assumption | omega) (by exact fun k hk => (g1_n (by omega)).trans (hFc k (by omega))) (by exact tab_st ((congrFun (g1_s _ _ _) _).trans (by rw [show q_g r ia * 31 + 0 = q_g r ia * 31 by omega]; exact pk_us)) (fun x g hx hg q => (congrFun (g1_s _ _ _) _).trans ((pk_un (by omega)).trans (hf _ (by omega))))) hP hS (lv_sub hl [1, 2, 3, 0] rfl) (Nat.lt_succ_self _)
            · skip
              refine lv_aload_n hx hb dX12_leastTries_48 rfl (lv_at hl 0 rfl) ?_
              refine z_get C0 hP (C := RX12) (T := TX12) (N := 21) (ci := 10) (index := 49) (k := 92) (ref := "WetSuitPedalsShoesModel") (zk_lt (rfl : zk 92 = 10) (by decide)) (zd_10 E (rfl : zk 92 = 10) _) rfl (zmi inU_12) 18 (by decide) (zm flRX12_49) rfl (v := .ref (E.1 106)) (rfl) dX12_leastTries_49 ?_
              refine lv_iload_n hx hb dX12_leastTries_52 rfl (lv_at hl 3 rfl) ?_
              refine lv_ldc (v := (1000000000 : Int32)) hx hb C0.2.2.2.1 (hts _ (zm kkRX12_55)) dX12_leastTries_53 ?_
              refine z_iast C0 hP hD hS (k := 106) (i := k) (v := (1000000000 : Int32)) (F := Gc 106) (rfl) (rfl : zk 106 = 11) (Nat.lt_of_lt_of_eq (show k < 3100 by omega) (rfl : zl 106 = 3100).symm) rfl dX12_leastTries_55 (fun H locs hP hS => ?_)
              refine lv_iinc (v := (nI (k + 1))) (lv' := [(3, .int (nI (k + 1))), (0, .ref (E.1 92)), (1, .int (nI ia)), (2, .int (nI tn))]) hx hb dX12_leastTries_56 hl (k := 3) rfl (z_inc (by decide)) (by decide) rfl (fun ls hl => ?_)
              refine lv_goto (tgt := 41) hx hb dX12_leastTries_59 (by decide) ?_
              exact ih_41 (k + 1) (g1 Gc 106 (upd (Gc 106) k (1000000000 : Int32))) _ _ _ (by first | assumption | omega) (by exact fun k hk => (g1_n (by omega)).trans (hFc k (by omega))) (by intro j hj; exact (congrFun (g1_s _ _ _) j).trans (s_up_l (g := fun _ => 1000000000) hf rfl j hj)) hP hS (lv_sub hl [1, 2, 3, 0] rfl) (by omega)
        exact cut_41 (_ + 1) 0 G _ _ _ (by first | assumption | omega) (by exact fun k hk => rfl) (by exact fun j hj => absurd hj (Nat.not_lt_zero j)) hP hS (lv_sub hl [1, 2, 3, 0] rfl) (Nat.lt_succ_self _)
      · skip
        have d_29 := Int32.not_le.mp c_29
        refine lv_aload_n hx hb dX12_leastTries_32 rfl (lv_at hl 0 rfl) ?_
        refine lv_bipush (v := (-6 : Int32)) hx hb dX12_leastTries_33 (by decide) ?_
        refine z_Vi C0 hP hD hA hS (As := [.int (-6 : Int32)]) (rest := []) (k := 92) (c_X12_no l E _ (-6 : Int32) 6 (by decide) (by decide)) (cwV 1 hts (zgV zbw mlRX12_56 imX12_no seX12_no iniRX12 coX12_no) rfl rfl rfl (by decide +kernel) ⟨Nat.le_of_ble_eq_true rfl, Nat.le_of_ble_eq_true rfl⟩) (zk_lt (rfl : zk 92 = 10) (by decide)) (zd_10 E (rfl : zk 92 = 10) _) rfl rfl rfl hl.1 rfl (Nat.le_of_ble_eq_true rfl) dX12_leastTries_35 ⟨Nat.zero_le _, Nat.zero_le _⟩ (fun r6 G6 H locs hw6 hP hS => ?_)
        obtain ⟨rfl, rfl⟩ := hw6
        subst hQ_
        exact z_iret C0 hP hS (v := (-6 : Int32)) (by exact zQm_of (k := 6) (by simp [A_least, hz_ia, hy_ia, d_15, d_29]) (fun k hk => g1_n (by omega)) (g1_s _ _ _)) dX12_leastTries_38
    · skip
      have d_15 := Int32.not_le.mp c_15
      refine lv_aload_n hx hb dX12_leastTries_18 rfl (lv_at hl 0 rfl) ?_
      refine lv_bipush (v := (-4 : Int32)) hx hb dX12_leastTries_19 (by decide) ?_
      refine z_Vi C0 hP hD hA hS (As := [.int (-4 : Int32)]) (rest := []) (k := 92) (c_X12_no l E _ (-4 : Int32) 4 (by decide) (by decide)) (cwV 1 hts (zgV zbw mlRX12_56 imX12_no seX12_no iniRX12 coX12_no) rfl rfl rfl (by decide +kernel) ⟨Nat.le_of_ble_eq_true rfl, Nat.le_of_ble_eq_true rfl⟩) (zk_lt (rfl : zk 92 = 10) (by decide)) (zd_10 E (rfl : zk 92 = 10) _) rfl rfl rfl hl.1 rfl (Nat.le_of_ble_eq_true rfl) dX12_leastTries_21 ⟨Nat.zero_le _, Nat.zero_le _⟩ (fun r7 G7 H locs hw7 hP hS => ?_)
      obtain ⟨rfl, rfl⟩ := hw7
      subst hQ_
      exact z_iret C0 hP hS (v := (-4 : Int32)) (by exact zQm_of (k := 4) (by simp [A_least, hz_ia, hy_ia, d_15]) (fun k hk => g1_n (by omega)) (g1_s _ _ _)) dX12_leastTries_24
  · skip
    have hz_ia := zin_f (by omega) hno1
    refine lv_if_ne (tgt := 14) hx hb dX12_leastTries_5 (by decide) (fun h_ => absurd (by decide) h_) (fun _ => ?_)
    refine lv_aload_n hx hb dX12_leastTries_8 rfl (lv_at hl 0 rfl) ?_
    refine lv_iconst (v := (-1 : Int32)) hx hb dX12_leastTries_9 (by decide) ?_
    refine z_Vi C0 hP hD hA hS (As := [.int (-1 : Int32)]) (rest := []) (k := 92) (c_X12_no l E _ (-1 : Int32) 1 (by decide) (by decide)) (cwV 1 hts (zgV zbw mlRX12_56 imX12_no seX12_no iniRX12 coX12_no) rfl rfl rfl (by decide +kernel) ⟨Nat.le_of_ble_eq_true rfl, Nat.le_of_ble_eq_true rfl⟩) (zk_lt (rfl : zk 92 = 10) (by decide)) (zd_10 E (rfl : zk 92 = 10) _) rfl rfl rfl hl.1 rfl (Nat.le_of_ble_eq_true rfl) dX12_leastTries_10 ⟨Nat.zero_le _, Nat.zero_le _⟩ (fun r8 G8 H locs hw8 hP hS => ?_)
    obtain ⟨rfl, rfl⟩ := hw8
    subst hQ_
    exact z_iret C0 hP hS (v := (-1 : Int32)) (by exact zQm_of (k := 1) (by simp [A_least, hz_ia]) (fun k hk => g1_n (by omega)) (g1_s _ _ _)) dX12_leastTries_13
