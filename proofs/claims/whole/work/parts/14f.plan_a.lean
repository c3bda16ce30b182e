/-! laid by wip/whole/vcg.py -/
theorem mlRX7_65 : Cond.methodLink RX7 65 yX7_easiestBest ∈ zU := zU_m 553 (by decide +kernel) rfl
theorem coX7_easiestBest : Cond.code yX7_easiestBest cX7_easiestBest 5 (some .int) ∈ zU := zU_m 556 (by decide +kernel) rfl
theorem imX7_easiestBest : Cond.instanceMethod yX7_easiestBest ∈ zU := zU_m 555 (by decide +kernel) rfl
theorem seX7_easiestBest : Cond.selects RX7 yX7_easiestBest yX7_easiestBest ∈ zU := zU_m 13 (by decide +kernel) rfl
set_option maxHeartbeats 4000000 in
set_option maxRecDepth 100000 in
theorem c_X7_leastFinish (l : Launch) (E : zE) (G : zG) (r : Nat → Int32) (a n : Nat) (hn10 : n ≤ 10) (hVs : zVs r n) (hpn : zPn G r a n) (hVa : zVa r a) : zMi l yX7_leastFinish wsX7_leastFinish ({ frames := 4, cells := 0, slots := 0, locals := 93 } : Room) E G [.ref (E.1 70)] (fun r1 G1 => (∀ k, (k < 75 ∨ 85 < k) → G1 k = G k) ∧ (∀ j, j ≤ n → ∀ x, x < 100 → G1 (75 + j) x = p_to r a n (n - j) x) ∧ p_to r a n n (q_g r a) = r1) := by
  refine zOf (cc := cX7_leastFinish) (nL := 3) (ret := (some .int)) RX7 (by decide) rfl rfl (Nat.le_of_ble_eq_true rfl) ?_
  intro p_ e_ s_ m_ a_ b_ me_ c_ ls C0 hP hS hl
  have hx := C0.1
  have hb := C0.2.1
  have hts := C0.2.2.2.2.1
  have hD : zD E (zA E s_.heap.size) := C0.2.2.2.2.2.2.2.2
  have hA : ∀ q : Nat, s_.heap.size ≤ q → zA E s_.heap.size q := fun q h => Or.inr h
  refine z_gen (fun Q_ hQ_ => ?_)
  have hl : lv_has ls 3 [(0, .ref (E.1 70))] := hl
  refine lv_iconst (v := (0 : Int32)) hx hb dX7_leastFinish_0 (by decide) ?_
  refine lv_istore_n (lv' := [(1, .int (0 : Int32)), (0, .ref (E.1 70))]) hx hb dX7_leastFinish_1 rfl hl (by decide) rfl (fun ls hl => ?_)
  have cut_2 : ∀ (fuel : Nat), ∀ (g : Nat) (Gc : zG) (H : Heap) (locs : List Loc) (ls : Array Slot), (g ≤ 100) → (∀ k, (k < 75 ∨ 85 < k) → Gc k = G k) → (∀ x, x < g → Gc (75 + n) x = 0) → zP E Gc H → va_S (zA E s_.heap.size) s_.heap H locs → lv_has ls 3 [(0, .ref (E.1 70)), (1, .int (nI g))] → 100 - g < fuel → W p_ l e_ ({ frames := 4, cells := 0, slots := 0, locals := 93 } : Room) s_ m_ a_ b_ me_ c_ H locs 0 0 Q_ (F0 m_ 2 ls []) := by
    intro fuel
    induction fuel with
    | zero =>
      intro g  Gc  H locs ls hg hFc h0 hP hS hl hfu
      exact absurd hfu (Nat.not_lt_zero _)
    | succ fuel ih_2 =>
      intro g  Gc  H locs ls hg hFc h0 hP hS hl hfu_2
      refine lv_iload_n hx hb dX7_leastFinish_2 rfl (lv_at hl 1 rfl) ?_
      refine lv_bipush (v := (100 : Int32)) hx hb dX7_leastFinish_3 (by decide) ?_
      refine z_N_ge hx hb (a := g) (b := 100) (tgt := 26) dX7_leastFinish_5 rfl rfl (by omega) (by omega) (by decide) (fun c_5 => ?_) (fun c_5 => ?_)
      · skip
        refine lv_aload_n hx hb dX7_leastFinish_26 rfl (lv_at hl 0 rfl) ?_
        refine z_get C0 hP (C := RX7) (T := TX7) (N := 8) (ci := 5) (index := 9) (k := 70) (ref := "WetSuitPedalsShoes$Planner") (zk_lt (rfl : zk 70 = 5) (by decide)) (zd_5 E (rfl : zk 70 = 5) _) rfl (zmi inU_7) 0 (by decide) (zm flRX7_9) rfl (v := .int (nI n)) (congrArg (fun z => some (Value.int z)) ((congrFun (hFc _ (by decide)) _).trans (hpn.1))) dX7_leastFinish_27 ?_
        refine lv_iconst (v := (1 : Int32)) hx hb dX7_leastFinish_30 (by decide) ?_
        refine lv_isub hx hb dX7_leastFinish_31 ?_
        refine lv_istore_n (lv' := [(1, .int ((nI n) - (1 : Int32))), (0, .ref (E.1 70))]) hx hb dX7_leastFinish_32 rfl hl (by decide) rfl (fun ls hl => ?_)
        have cut_33 : ∀ (fuel : Nat), ∀ (y : Int32) (k : Nat) (Gc : zG) (H : Heap) (locs : List Loc) (ls : Array Slot), (k ≤ n) → (y = nI (n - k) - 1) → (∀ k, (k < 75 ∨ 85 < k) → Gc k = G k) → (∀ j, n - k ≤ j → j ≤ n → ∀ x, x < 100 → Gc (75 + j) x = p_to r a n (n - j) x) → zP E Gc H → va_S (zA E s_.heap.size) s_.heap H locs → lv_has ls 3 [(0, .ref (E.1 70)), (1, .int y)] → n - k < fuel → W p_ l e_ ({ frames := 4, cells := 0, slots := 0, locals := 93 } : Room) s_ m_ a_ b_ me_ c_ H locs 0 0 Q_ (F0 m_ 33 ls []) := by
          intro fuel
          induction fuel with
          | zero =>
            intro y  k  Gc  H locs ls hk hy hFc hf hP hS hl hfu
            exact absurd hfu (Nat.not_lt_zero _)
          | succ fuel ih_33 =>
            intro y  k  Gc  H locs ls hk hy hFc hf hP hS hl hfu_33
            refine lv_iload_n hx hb dX7_leastFinish_33 rfl (lv_at hl 1 rfl) ?_
            refine lv_if_lt (tgt := 77) hx hb dX7_leastFinish_34 (by decide) (fun c_34 => ?_) (fun c_34 => ?_)
            · skip
              have e9 := z_down0 hk hn10 hy c_34
              have hqg := q_g_e hVa
              refine lv_aload_n hx hb dX7_leastFinish_77 rfl (lv_at hl 0 rfl) ?_
              refine z_get C0 hP (C := RX7) (T := TX7) (N := 8) (ci := 5) (index := 30) (k := 70) (ref := "WetSuitPedalsShoes$Planner") (zk_lt (rfl : zk 70 = 5) (by decide)) (zd_5 E (rfl : zk 70 = 5) _) rfl (zmi inU_7) 5 (by decide) (zm flRX7_30) rfl (v := .ref (E.1 74)) (rfl) dX7_leastFinish_78 ?_
              refine lv_iconst (v := (0 : Int32)) hx hb dX7_leastFinish_81 (by decide) ?_
              refine z_aald2 C0 hP (k := 74) (i := 0) (rfl : zk 74 = 13) (by decide) rfl dX7_leastFinish_82 (fun a_ ha_ => ?_)
              rw [ha_]
              show W _ _ _ _ _ _ _ _ _ _ _ _ _ _ _ (F0 _ _ _ (.ref (E.1 75) :: _))
              refine lv_aload_n hx hb dX7_leastFinish_83 rfl (lv_at hl 0 rfl) ?_
              refine z_get C0 hP (C := RX7) (T := TX7) (N := 8) (ci := 5) (index := 15) (k := 70) (ref := "WetSuitPedalsShoes$Planner") (zk_lt (rfl : zk 70 = 5) (by decide)) (zd_5 E (rfl : zk 70 = 5) _) rfl (zmi inU_7) 1 (by decide) (zm flRX7_15) rfl (v := .int (nI (q_g r a))) (congrArg (fun z => some (Value.int z)) ((congrFun (hFc _ (by decide)) _).trans (hpn.2.1))) dX7_leastFinish_84 ?_
              refine z_iald C0 hP (k := 75) (i := q_g r a) (v := (Gc 75 (q_g r a))) (rfl : zk 75 = 11) (Nat.lt_of_lt_of_eq (show q_g r a < 100 by omega) (rfl : zl 75 = 100).symm) rfl dX7_leastFinish_87 (rfl) ?_
              subst hQ_
              exact z_iret C0 hP hS (v := (Gc 75 (q_g r a))) (by exact ⟨hFc, fun j h1 x hx => hf j (by omega) h1 x hx, (hf 0 (by omega) (by omega) _ hqg.2).symm⟩) dX7_leastFinish_88
            · skip
              obtain ⟨i, hi, rfl⟩ := z_down hk hn10 hy c_34
              have hy_i : zix (nI i) = i := zix_n (by omega)
              refine lv_iconst (v := (0 : Int32)) hx hb dX7_leastFinish_37 (by decide) ?_
              refine lv_istore_n (lv' := [(2, .int (0 : Int32)), (0, .ref (E.1 70)), (1, .int (nI i))]) hx hb dX7_leastFinish_38 rfl hl (by decide) rfl (fun ls hl => ?_)
              have cut_39 : ∀ (fuel : Nat), ∀ (g : Nat) (Gc : zG) (H : Heap) (locs : List Loc) (ls : Array Slot), (g ≤ 100) → (∀ k, (k < 75 ∨ 85 < k) → Gc k = G k) → (∀ j, n - k ≤ j → j ≤ n → ∀ x, x < 100 → Gc (75 + j) x = p_to r a n (n - j) x) → (∀ x, x < g → Gc (75 + i) x = p_to r a n (k + 1) x) → zP E Gc H → va_S (zA E s_.heap.size) s_.heap H locs → lv_has ls 3 [(0, .ref (E.1 70)), (1, .int (nI i)), (2, .int (nI g))] → 100 - g < fuel → W p_ l e_ ({ frames := 4, cells := 0, slots := 0, locals := 93 } : Room) s_ m_ a_ b_ me_ c_ H locs 0 0 Q_ (F0 m_ 39 ls []) := by
                intro fuel
                induction fuel with
                | zero =>
                  intro g  Gc  H locs ls hg hFc hf hf2 hP hS hl hfu
                  exact absurd hfu (Nat.not_lt_zero _)
                | succ fuel ih_39 =>
                  intro g  Gc  H locs ls hg hFc hf hf2 hP hS hl hfu_39
                  refine lv_iload_n hx hb dX7_leastFinish_39 rfl (lv_at hl 2 rfl) ?_
                  refine lv_bipush (v := (100 : Int32)) hx hb dX7_leastFinish_40 (by decide) ?_
                  refine z_N_ge hx hb (a := g) (b := 100) (tgt := 71) dX7_leastFinish_42 rfl rfl (by omega) (by omega) (by decide) (fun c_42 => ?_) (fun c_42 => ?_)
                  · skip
                    refine lv_iinc (v := ((nI i) + Int32.ofInt (-1))) (lv' := [(1, .int ((nI i) + Int32.ofInt (-1))), (0, .ref (E.1 70)), (2, .int (nI g))]) hx hb dX7_leastFinish_71 hl (k := 1) rfl (rfl) (by decide) rfl (fun ls hl => ?_)
                    refine lv_goto (tgt := 33) hx hb dX7_leastFinish_74 (by decide) ?_
                    exact ih_33 ((nI i) + Int32.ofInt (-1)) (k + 1) Gc _ _ _ (by omega) (by rw [show n - (k + 1) = i by omega]; exact z_dn _) (by exact fun k hk => hFc k (by omega)) (by intro j h1 h2 x hx; by_cases e9 : j = i; (rw [e9, show n - i = k + 1 by omega]; exact hf2 x (by omega)); exact hf j (by omega) h2 x hx) hP hS (lv_sub hl [1, 0] rfl) (by omega)
                  · skip
                    refine lv_aload_n hx hb dX7_leastFinish_45 rfl (lv_at hl 0 rfl) ?_
                    refine z_get C0 hP (C := RX7) (T := TX7) (N := 8) (ci := 5) (index := 30) (k := 70) (ref := "WetSuitPedalsShoes$Planner") (zk_lt (rfl : zk 70 = 5) (by decide)) (zd_5 E (rfl : zk 70 = 5) _) rfl (zmi inU_7) 5 (by decide) (zm flRX7_30) rfl (v := .ref (E.1 74)) (rfl) dX7_leastFinish_46 ?_
                    refine lv_iload_n hx hb dX7_leastFinish_49 rfl (lv_at hl 1 rfl) ?_
                    refine z_aald2 C0 hP (k := 74) (i := i) (rfl : zk 74 = 13) (by omega) rfl dX7_leastFinish_50 (fun rw_ hrw_ => ?_)
                    have krw_ : zIs rw_ [(0, 11, 100)] := hrw_ ▸ zIs_toc (z_lit_Pla_70) (by omega)
                    refine lv_iload_n hx hb dX7_leastFinish_51 rfl (lv_at hl 2 rfl) ?_
                    refine lv_aload_n hx hb dX7_leastFinish_52 rfl (lv_at hl 0 rfl) ?_
                    refine lv_iload_n hx hb dX7_leastFinish_53 rfl (lv_at hl 1 rfl) ?_
                    refine lv_iload_n hx hb dX7_leastFinish_54 rfl (lv_at hl 2 rfl) ?_
                    refine lv_aload_n hx hb dX7_leastFinish_55 rfl (lv_at hl 0 rfl) ?_
                    refine lv_iload_n hx hb dX7_leastFinish_56 rfl (lv_at hl 1 rfl) ?_
                    refine lv_iload_n hx hb dX7_leastFinish_57 rfl (lv_at hl 2 rfl) ?_
                    refine z_Vi C0 hP hD hA hS (As := [.int (nI i), .int (nI g)]) (rest := [.int (nI g), .int (nI i), .ref (E.1 70), .int (nI g), .ref (E.1 rw_)]) (k := 70) (c_X7_easiestBest l E _ r a n i g hn10 hVs (zPn_fr hpn hFc) (by omega) (by omega)) (cwV 2 hts (zgV zbw mlRX7_65 imX7_easiestBest seX7_easiestBest iniRX7 coX7_easiestBest) rfl rfl rfl (by decide +kernel) ⟨Nat.le_of_ble_eq_true rfl, Nat.le_of_ble_eq_true rfl⟩) (zk_lt (rfl : zk 70 = 5) (by decide)) (zd_5 E (rfl : zk 70 = 5) _) rfl rfl rfl hl.1 rfl (Nat.le_of_ble_eq_true rfl) dX7_leastFinish_58 ⟨Nat.zero_le _, Nat.zero_le _⟩ (fun r2 G2 H locs hw2 hP hS => ?_)
                    obtain ⟨hr2, rfl⟩ := hw2
                    subst hr2
                    have hl3 := s_arg_le (p_with r a i (Gc (75 + (i + 1))) g) 3
                    refine z_Vi C0 hP hD hA hS (As := [.int (nI i), .int (nI g), .int (nI (s_arg (p_with r a i (Gc (75 + (i + 1))) g) 3))]) (rest := [.int (nI g), .ref (E.1 rw_)]) (k := 70) (c_X7_secondsFrom l E _ r a n i g (s_arg (p_with r a i (Gc (75 + (i + 1))) g) 3) hn10 hVs (zPn_fr hpn hFc) (by omega) (by omega) (by omega)) (cwV 3 hts (zgV zbw mlRX7_62 imX7_secondsFrom seX7_secondsFrom iniRX7 coX7_secondsFrom) rfl rfl rfl (by decide +kernel) ⟨Nat.le_of_ble_eq_true rfl, Nat.le_of_ble_eq_true rfl⟩) (zk_lt (rfl : zk 70 = 5) (by decide)) (zd_5 E (rfl : zk 70 = 5) _) rfl rfl rfl hl.1 rfl (Nat.le_of_ble_eq_true rfl) dX7_leastFinish_61 ⟨Nat.zero_le _, Nat.zero_le _⟩ (fun r3 G3 H locs hw3 hP hS => ?_)
                    obtain ⟨hr3, rfl⟩ := hw3
                    subst hr3
                    refine z_iast C0 hP hD hS (k := rw_) (i := g) (v := (p_with r a i (Gc (75 + (i + 1))) g (s_arg (p_with r a i (Gc (75 + (i + 1))) g) 3))) (F := Gc rw_) (rfl) (krw_ (0, 11, 100) (by decide)).1 (Nat.lt_of_lt_of_eq (show g < 100 by omega) (krw_ (0, 11, 100) (by decide)).2.symm) rfl dX7_leastFinish_64 (fun H locs hP hS => ?_)
                    refine lv_iinc (v := (nI (g + 1))) (lv' := [(2, .int (nI (g + 1))), (0, .ref (E.1 70)), (1, .int (nI i))]) hx hb dX7_leastFinish_65 hl (k := 2) rfl (z_inc (by decide)) (by decide) rfl (fun ls hl => ?_)
                    refine lv_goto (tgt := 39) hx hb dX7_leastFinish_68 (by decide) ?_
                    exact ih_39 (g + 1) (g1 Gc rw_ (upd (Gc rw_) g (p_with r a i (Gc (75 + (i + 1))) g (s_arg (p_with r a i (Gc (75 + (i + 1))) g) 3)))) _ _ _ (by first | assumption | omega) (by exact fun k hk => (g1_n (by omega)).trans (hFc k (by omega))) (by intro j h1 h2 x hx; rw [g1_n (by omega)]; exact hf j h1 h2 x hx) (by have e9 : rw_ = 75 + i := (by omega); subst e9; intro x hx; rw [g1_s]; by_cases e8 : x = g; (subst e8; exact pk_us.trans (p_to_T hVs (by omega) (by omega) (fun z hz => (hf (i + 1) (by omega) (by omega) z hz).trans (by rw [show n - (i + 1) = k by omega])))); (rw [pk_un e8]; exact hf2 x (by omega))) hP hS (lv_sub hl [1, 2, 0] rfl) (by omega)
              exact cut_39 (_ + 1) 0 Gc _ _ _ (by first | assumption | omega) (by exact fun k hk => hFc k (by omega)) (by exact hf) (by exact fun x hx => absurd hx (Nat.not_lt_zero x)) hP hS (lv_sub hl [1, 2, 0] rfl) (Nat.lt_succ_self _)
        exact cut_33 (_ + 1) ((nI n) - (1 : Int32)) 0 Gc _ _ _ (by omega) (by rfl) (by exact fun k hk => hFc k (by omega)) (by intro j h1 h2 x hx; have e9 : j = n := (by omega); rw [e9, Nat.sub_self]; exact h0 x (by omega)) hP hS (lv_sub hl [1, 0] rfl) (Nat.lt_succ_self _)
      · skip
        refine lv_aload_n hx hb dX7_leastFinish_8 rfl (lv_at hl 0 rfl) ?_
        refine z_get C0 hP (C := RX7) (T := TX7) (N := 8) (ci := 5) (index := 30) (k := 70) (ref := "WetSuitPedalsShoes$Planner") (zk_lt (rfl : zk 70 = 5) (by decide)) (zd_5 E (rfl : zk 70 = 5) _) rfl (zmi inU_7) 5 (by decide) (zm flRX7_30) rfl (v := .ref (E.1 74)) (rfl) dX7_leastFinish_9 ?_
        refine lv_aload_n hx hb dX7_leastFinish_12 rfl (lv_at hl 0 rfl) ?_
        refine z_get C0 hP (C := RX7) (T := TX7) (N := 8) (ci := 5) (index := 9) (k := 70) (ref := "WetSuitPedalsShoes$Planner") (zk_lt (rfl : zk 70 = 5) (by decide)) (zd_5 E (rfl : zk 70 = 5) _) rfl (zmi inU_7) 0 (by decide) (zm flRX7_9) rfl (v := .int (nI n)) (congrArg (fun z => some (Value.int z)) ((congrFun (hFc _ (by decide)) _).trans (hpn.1))) dX7_leastFinish_13 ?_
        refine z_aald2 C0 hP (k := 74) (i := n) (rfl : zk 74 = 13) (by omega) rfl dX7_leastFinish_16 (fun rw_ hrw_ => ?_)
        have krw_ : zIs rw_ [(0, 11, 100)] := hrw_ ▸ zIs_toc (z_lit_Pla_70) (by omega)
        refine lv_iload_n hx hb dX7_leastFinish_17 rfl (lv_at hl 1 rfl) ?_
        refine lv_iconst (v := (0 : Int32)) hx hb dX7_leastFinish_18 (by decide) ?_
        refine z_iast C0 hP hD hS (k := rw_) (i := g) (v := (0 : Int32)) (F := Gc rw_) (rfl) (krw_ (0, 11, 100) (by decide)).1 (Nat.lt_of_lt_of_eq (show g < 100 by omega) (krw_ (0, 11, 100) (by decide)).2.symm) rfl dX7_leastFinish_19 (fun H locs hP hS => ?_)
        refine lv_iinc (v := (nI (g + 1))) (lv' := [(1, .int (nI (g + 1))), (0, .ref (E.1 70))]) hx hb dX7_leastFinish_20 hl (k := 1) rfl (z_inc (by decide)) (by decide) rfl (fun ls hl => ?_)
        refine lv_goto (tgt := 2) hx hb dX7_leastFinish_23 (by decide) ?_
        exact ih_2 (g + 1) (g1 Gc rw_ (upd (Gc rw_) g (0 : Int32))) _ _ _ (by first | assumption | omega) (by exact fun k hk => (g1_n (by omega)).trans (hFc k (by omega))) (by have e9 : rw_ = 75 + n := (by omega); subst e9; intro x hx; rw [g1_s]; by_cases e8 : x = g; (subst e8; exact pk_us.trans (rfl)); (rw [pk_un e8]; exact h0 x (by omega))) hP hS (lv_sub hl [1, 0] rfl) (by omega)
  exact cut_2 (_ + 1) 0 G _ _ _ (by first | assumption | omega) (by exact fun k hk => rfl) (by exact fun x hx => absurd hx (Nat.not_lt_zero x)) hP hS (lv_sub hl [1, 0] rfl) (Nat.lt_succ_self _)
