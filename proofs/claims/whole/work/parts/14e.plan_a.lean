/-! laid by wip/whole/vcg.py -/
theorem flRX7_39 : Cond.fieldLink RX7 39 "WetSuitPedalsShoes$Course" "many" "I" ∈ zU := zU_m 84 (by decide +kernel) rfl
theorem flRX7_9 : Cond.fieldLink RX7 9 "WetSuitPedalsShoes$Planner" "many" "I" ∈ zU := zU_m 217 (by decide +kernel) rfl
theorem flRX7_42 : Cond.fieldLink RX7 42 "WetSuitPedalsShoes$Athlete" "able" "[I" ∈ zU := zU_m 117 (by decide +kernel) rfl
theorem flRX7_15 : Cond.fieldLink RX7 15 "WetSuitPedalsShoes$Planner" "legsAtStart" "I" ∈ zU := zU_m 218 (by decide +kernel) rfl
theorem flRX7_18 : Cond.fieldLink RX7 18 "WetSuitPedalsShoes$Planner" "kind" "[I" ∈ zU := zU_m 219 (by decide +kernel) rfl
theorem flRX7_47 : Cond.fieldLink RX7 47 "WetSuitPedalsShoes$Course" "kind" "[I" ∈ zU := zU_m 90 (by decide +kernel) rfl
theorem flRX7_22 : Cond.fieldLink RX7 22 "WetSuitPedalsShoes$Planner" "length" "[I" ∈ zU := zU_m 220 (by decide +kernel) rfl
theorem flRX7_48 : Cond.fieldLink RX7 48 "WetSuitPedalsShoes$Course" "length" "[I" ∈ zU := zU_m 96 (by decide +kernel) rfl
theorem flRX7_25 : Cond.fieldLink RX7 25 "WetSuitPedalsShoes$Planner" "untried" "[I" ∈ zU := zU_m 221 (by decide +kernel) rfl
theorem mlRX7_49 : Cond.methodLink RX7 49 yX1_untried ∈ zU := zU_m 548 (by decide +kernel) rfl
set_option maxHeartbeats 4000000 in
set_option maxRecDepth 100000 in
theorem c_X7_look (l : Launch) (E : zE) (G : zG) (w n : Nat) (hw : zIs w tAth) (hw1 : w + 2 < 70) (hn : G 2 0 = nI n) (hn10 : n ≤ 10) : zMv l yX7_look wsX7_look ({ frames := 3, cells := 0, slots := 0, locals := 66 } : Room) E G [.ref (E.1 70), .ref (E.1 2), .ref (E.1 w)] (fun G1 => (∀ k, (k < 70 ∨ 73 < k) → G1 k = G k) ∧ G1 70 0 = nI n ∧ G1 70 1 = G (w + 1) 3 ∧ G1 70 6 = G 70 6 ∧ G1 70 7 = G 70 7 ∧ ∀ j, j < n → G1 71 j = G 3 j ∧ G1 72 j = G 5 j ∧ G1 73 j = s_plain (G 3) (G 4) (G 5) (G (w + 1)) j) := by
  refine zOf (cc := cX7_look) (nL := 4) (ret := none) RX7 (by decide) rfl rfl (Nat.le_of_ble_eq_true rfl) ?_
  intro p_ e_ s_ m_ a_ b_ me_ c_ ls C0 hP hS hl
  have hx := C0.1
  have hb := C0.2.1
  have hts := C0.2.2.2.2.1
  have hD : zD E (zA E s_.heap.size) := C0.2.2.2.2.2.2.2.2
  have hA : ∀ q : Nat, s_.heap.size ≤ q → zA E s_.heap.size q := fun q h => Or.inr h
  refine z_gen (fun Q_ hQ_ => ?_)
  have hl : lv_has ls 4 [(0, .ref (E.1 70)), (1, .ref (E.1 2)), (2, .ref (E.1 w))] := hl
  refine lv_aload_n hx hb dX7_look_0 rfl (lv_at hl 0 rfl) ?_
  refine lv_aload_n hx hb dX7_look_1 rfl (lv_at hl 1 rfl) ?_
  refine z_get C0 hP (C := RX1) (T := TX1) (N := 4) (ci := 1) (index := 39) (k := 2) (ref := "WetSuitPedalsShoes$Course") (zk_lt (rfl : zk 2 = 1) (by decide)) (zd_1 E (rfl : zk 2 = 1) _) rfl (zmi inU_1) 0 (by decide) (zm flRX7_39) rfl (v := .int (nI n)) (congrArg (fun z => some (Value.int z)) (hn)) dX7_look_2 ?_
  refine z_put C0 hP hD hS (C := RX7) (T := TX7) (N := 8) (ci := 5) (index := 9) (k := 70) (ref := "WetSuitPedalsShoes$Planner") (F := G 70) (ty := .int) (rfl) tyX7 tyX7_ok nmX7 (zk_lt (rfl : zk 70 = 5) (by decide)) (zd_5 E (rfl : zk 70 = 5) _) rfl (zmi inU_7) 0 (by decide) (zm flRX7_9) rfl rfl (by decide +kernel) (by rfl) rfl (by show 0 < 8; decide) (upd (G 70) 0 (nI n)) ((zd_5 E (rfl : zk 70 = 5) _).trans (rfl)) dX7_look_5 (fun H locs hP hS => ?_)
  refine lv_aload_n hx hb dX7_look_8 rfl (lv_at hl 0 rfl) ?_
  refine lv_aload_n hx hb dX7_look_9 rfl (lv_at hl 2 rfl) ?_
  refine z_get C0 hP (C := RX0) (T := TX0) (N := 2) (ci := 0) (index := 42) (k := w) (ref := "WetSuitPedalsShoes$Athlete") (zk_lt (hw (0, 0, 2) (by decide)).1 (by decide)) (zd_0 E (hw (0, 0, 2) (by decide)).1 _) rfl (zmi inU_0) 0 (by decide) (zm flRX7_42) rfl (v := .ref (E.1 (w + 1))) (rfl) dX7_look_10 ?_
  refine lv_iconst (v := (3 : Int32)) hx hb dX7_look_13 (by decide) ?_
  refine z_iald C0 hP (k := (w + 1)) (i := 3) (v := (G (w + 1) 3)) (hw (1, 11, 4) (by decide)).1 (Nat.lt_of_lt_of_eq (show 3 < 4 by decide) (hw (1, 11, 4) (by decide)).2.symm) rfl dX7_look_14 (congrFun (g1_n (by omega)) _) ?_
  refine z_put C0 hP hD hS (C := RX7) (T := TX7) (N := 8) (ci := 5) (index := 15) (k := 70) (ref := "WetSuitPedalsShoes$Planner") (F := (upd (G 70) 0 (nI n))) (ty := .int) (g1_s _ _ _) tyX7 tyX7_ok nmX7 (zk_lt (rfl : zk 70 = 5) (by decide)) (zd_5 E (rfl : zk 70 = 5) _) rfl (zmi inU_7) 1 (by decide) (zm flRX7_15) rfl rfl (by decide +kernel) (by rfl) rfl (by show 1 < 8; decide) (upd (upd (G 70) 0 (nI n)) 1 (G (w + 1) 3)) ((zd_5 E (rfl : zk 70 = 5) _).trans (rfl)) dX7_look_15 (fun H locs hP hS => ?_)
  have hP := zP_eq (g1_t _ _ _ _ : _ = (g1 G 70 (upd (upd (G 70) 0 (nI n)) 1 (G (w + 1) 3)))) hP
  refine lv_iconst (v := (0 : Int32)) hx hb dX7_look_18 (by decide) ?_
  refine lv_istore_n (lv' := [(3, .int (0 : Int32)), (0, .ref (E.1 70)), (1, .ref (E.1 2)), (2, .ref (E.1 w))]) hx hb dX7_look_19 rfl hl (by decide) rfl (fun ls hl => ?_)
  have cut_20 : ∀ (fuel : Nat), ∀ (i : Nat) (Gc : zG) (H : Heap) (locs : List Loc) (ls : Array Slot), (i ≤ n) → (∀ k, (k < 70 ∨ 73 < k) → Gc k = G k) → (Gc 70 0 = nI n) → (Gc 70 1 = G (w + 1) 3) → (Gc 70 6 = G 70 6) → (Gc 70 7 = G 70 7) → (∀ j, j < i → Gc 71 j = G 3 j ∧ Gc 72 j = G 5 j ∧ Gc 73 j = s_plain (G 3) (G 4) (G 5) (G (w + 1)) j) → zP E Gc H → va_S (zA E s_.heap.size) s_.heap H locs → lv_has ls 4 [(0, .ref (E.1 70)), (1, .ref (E.1 2)), (2, .ref (E.1 w)), (3, .int (nI i))] → n - i < fuel → W p_ l e_ ({ frames := 3, cells := 0, slots := 0, locals := 66 } : Room) s_ m_ a_ b_ me_ c_ H locs 0 0 Q_ (F0 m_ 20 ls []) := by
    intro fuel
    induction fuel with
    | zero =>
      intro i  Gc  H locs ls hin hFc hm h1 h6 h7 hrow hP hS hl hfu
      exact absurd hfu (Nat.not_lt_zero _)
    | succ fuel ih_20 =>
      intro i  Gc  H locs ls hin hFc hm h1 h6 h7 hrow hP hS hl hfu_20
      refine lv_iload_n hx hb dX7_look_20 rfl (lv_at hl 3 rfl) ?_
      refine lv_aload_n hx hb dX7_look_21 rfl (lv_at hl 0 rfl) ?_
      refine z_get C0 hP (C := RX7) (T := TX7) (N := 8) (ci := 5) (index := 9) (k := 70) (ref := "WetSuitPedalsShoes$Planner") (zk_lt (rfl : zk 70 = 5) (by decide)) (zd_5 E (rfl : zk 70 = 5) _) rfl (zmi inU_7) 0 (by decide) (zm flRX7_9) rfl (v := .int (nI n)) (congrArg (fun z => some (Value.int z)) (hm)) dX7_look_22 ?_
      refine z_N_ge hx hb (a := i) (b := n) (tgt := 70) dX7_look_25 rfl rfl (by omega) (by omega) (by decide) (fun c_25 => ?_) (fun c_25 => ?_)
      · skip
        subst hQ_
        exact z_vret C0 hP hS (by exact ⟨hFc, hm, h1, h6, h7, fun j hj => hrow j (by omega)⟩) dX7_look_70
      · skip
        refine lv_aload_n hx hb dX7_look_28 rfl (lv_at hl 0 rfl) ?_
        refine z_get C0 hP (C := RX7) (T := TX7) (N := 8) (ci := 5) (index := 18) (k := 70) (ref := "WetSuitPedalsShoes$Planner") (zk_lt (rfl : zk 70 = 5) (by decide)) (zd_5 E (rfl : zk 70 = 5) _) rfl (zmi inU_7) 2 (by decide) (zm flRX7_18) rfl (v := .ref (E.1 71)) (rfl) dX7_look_29 ?_
        refine lv_iload_n hx hb dX7_look_32 rfl (lv_at hl 3 rfl) ?_
        refine lv_aload_n hx hb dX7_look_33 rfl (lv_at hl 1 rfl) ?_
        refine z_get C0 hP (C := RX1) (T := TX1) (N := 4) (ci := 1) (index := 47) (k := 2) (ref := "WetSuitPedalsShoes$Course") (zk_lt (rfl : zk 2 = 1) (by decide)) (zd_1 E (rfl : zk 2 = 1) _) rfl (zmi inU_1) 1 (by decide) (zm flRX7_47) rfl (v := .ref (E.1 3)) (rfl) dX7_look_34 ?_
        refine lv_iload_n hx hb dX7_look_37 rfl (lv_at hl 3 rfl) ?_
        refine z_iald C0 hP (k := 3) (i := i) (v := (G 3 i)) (rfl : zk 3 = 11) (Nat.lt_of_lt_of_eq (show i < 10 by omega) (rfl : zl 3 = 10).symm) rfl dX7_look_38 (congrFun (hFc _ (by decide)) _) ?_
        refine z_iast C0 hP hD hS (k := 71) (i := i) (v := (G 3 i)) (F := Gc 71) (rfl) (rfl : zk 71 = 11) (Nat.lt_of_lt_of_eq (show i < 10 by omega) (rfl : zl 71 = 10).symm) rfl dX7_look_39 (fun H locs hP hS => ?_)
        refine lv_aload_n hx hb dX7_look_40 rfl (lv_at hl 0 rfl) ?_
        refine z_get C0 hP (C := RX7) (T := TX7) (N := 8) (ci := 5) (index := 22) (k := 70) (ref := "WetSuitPedalsShoes$Planner") (zk_lt (rfl : zk 70 = 5) (by decide)) (zd_5 E (rfl : zk 70 = 5) _) rfl (zmi inU_7) 3 (by decide) (zm flRX7_22) rfl (v := .ref (E.1 72)) (rfl) dX7_look_41 ?_
        refine lv_iload_n hx hb dX7_look_44 rfl (lv_at hl 3 rfl) ?_
        refine lv_aload_n hx hb dX7_look_45 rfl (lv_at hl 1 rfl) ?_
        refine z_get C0 hP (C := RX1) (T := TX1) (N := 4) (ci := 1) (index := 48) (k := 2) (ref := "WetSuitPedalsShoes$Course") (zk_lt (rfl : zk 2 = 1) (by decide)) (zd_1 E (rfl : zk 2 = 1) _) rfl (zmi inU_1) 3 (by decide) (zm flRX7_48) rfl (v := .ref (E.1 5)) (rfl) dX7_look_46 ?_
        refine lv_iload_n hx hb dX7_look_49 rfl (lv_at hl 3 rfl) ?_
        refine z_iald C0 hP (k := 5) (i := i) (v := (G 5 i)) (rfl : zk 5 = 11) (Nat.lt_of_lt_of_eq (show i < 10 by omega) (rfl : zl 5 = 10).symm) rfl dX7_look_50 (congrFun ((g1_n (by decide)).trans (hFc _ (by decide))) _) ?_
        refine z_iast C0 hP hD hS (k := 72) (i := i) (v := (G 5 i)) (F := Gc 72) (g1_n (by decide)) (rfl : zk 72 = 11) (Nat.lt_of_lt_of_eq (show i < 10 by omega) (rfl : zl 72 = 10).symm) rfl dX7_look_51 (fun H locs hP hS => ?_)
        refine lv_aload_n hx hb dX7_look_52 rfl (lv_at hl 0 rfl) ?_
        refine z_get C0 hP (C := RX7) (T := TX7) (N := 8) (ci := 5) (index := 25) (k := 70) (ref := "WetSuitPedalsShoes$Planner") (zk_lt (rfl : zk 70 = 5) (by decide)) (zd_5 E (rfl : zk 70 = 5) _) rfl (zmi inU_7) 4 (by decide) (zm flRX7_25) rfl (v := .ref (E.1 73)) (rfl) dX7_look_53 ?_
        refine lv_iload_n hx hb dX7_look_56 rfl (lv_at hl 3 rfl) ?_
        refine lv_aload_n hx hb dX7_look_57 rfl (lv_at hl 1 rfl) ?_
        refine lv_iload_n hx hb dX7_look_58 rfl (lv_at hl 3 rfl) ?_
        refine lv_aload_n hx hb dX7_look_59 rfl (lv_at hl 2 rfl) ?_
        refine z_Vi C0 hP hD hA hS (As := [.int (nI i), .ref (E.1 w)]) (rest := [.int (nI i), .ref (E.1 73)]) (k := 2) (c_X1_untried l E _ 2 i w z_lit_Cou_2 hw (by omega)) (cwV 2 hts (zgV zbw mlRX7_49 imX1_untried seX1_untried iniRX1 coX1_untried) rfl rfl rfl (by decide +kernel) ⟨Nat.le_of_ble_eq_true rfl, Nat.le_of_ble_eq_true rfl⟩) (zk_lt (rfl : zk 2 = 1) (by decide)) (zd_1 E (rfl : zk 2 = 1) _) rfl rfl rfl hl.1 rfl (Nat.le_of_ble_eq_true rfl) dX7_look_60 ⟨Nat.zero_le _, Nat.zero_le _⟩ (fun r1 G1 H locs hw1 hP hS => ?_)
        obtain ⟨hr1, rfl⟩ := hw1
        have hr1 := ((s_plain_c ((g1_n (by decide)).trans ((g1_n (by decide)).trans (hFc _ (by decide)))) ((g1_n (by decide)).trans ((g1_n (by decide)).trans (hFc _ (by decide)))) ((g1_n (by decide)).trans ((g1_n (by decide)).trans (hFc _ (by decide)))) ((g1_n (by omega)).trans ((g1_n (by omega)).trans (hFc _ (by omega)))) : _ = s_plain (G 3) (G 4) (G 5) (G (w + 1)) i).symm).trans hr1
        subst hr1
        refine z_iast C0 hP hD hS (k := 73) (i := i) (v := (s_plain (G 3) (G 4) (G 5) (G (w + 1)) i)) (F := Gc 73) ((g1_n (by decide)).trans (g1_n (by decide))) (rfl : zk 73 = 11) (Nat.lt_of_lt_of_eq (show i < 10 by omega) (rfl : zl 73 = 10).symm) rfl dX7_look_63 (fun H locs hP hS => ?_)
        refine lv_iinc (v := (nI (i + 1))) (lv' := [(3, .int (nI (i + 1))), (0, .ref (E.1 70)), (1, .ref (E.1 2)), (2, .ref (E.1 w))]) hx hb dX7_look_64 hl (k := 3) rfl (z_inc (by decide)) (by decide) rfl (fun ls hl => ?_)
        refine lv_goto (tgt := 20) hx hb dX7_look_67 (by decide) ?_
        exact ih_20 (i + 1) (g1 (g1 (g1 Gc 71 (upd (Gc 71) i (G 3 i))) 72 (upd (Gc 72) i (G 5 i))) 73 (upd (Gc 73) i (s_plain (G 3) (G 4) (G 5) (G (w + 1)) i))) _ _ _ (by first | assumption | omega) (by exact fun k hk => (g1_n (by omega)).trans ((g1_n (by omega)).trans ((g1_n (by omega)).trans (hFc k (by omega))))) (by exact (congrFun ((g1_n (by decide)).trans ((g1_n (by decide)).trans (g1_n (by decide)))) _).trans (hm)) (by exact (congrFun ((g1_n (by decide)).trans ((g1_n (by decide)).trans (g1_n (by decide)))) _).trans h1) (by exact (congrFun ((g1_n (by decide)).trans ((g1_n (by decide)).trans (g1_n (by decide)))) _).trans h6) (by exact (congrFun ((g1_n (by decide)).trans ((g1_n (by decide)).trans (g1_n (by decide)))) _).trans h7) (by intro j hj; rcases Nat.lt_or_ge j i with q | q; (exact ⟨(congrFun ((g1_n (by decide)).trans ((g1_n (by decide)).trans (g1_s _ _ _))) j).trans ((pk_un (by omega)).trans (hrow j q).1), (congrFun ((g1_n (by decide)).trans (g1_s _ _ _)) j).trans ((pk_un (by omega)).trans (hrow j q).2.1), (congrFun (g1_s _ _ _) j).trans ((pk_un (by omega)).trans (hrow j q).2.2)⟩); (have e9 : j = i := (by omega); subst e9; exact ⟨(congrFun ((g1_n (by decide)).trans ((g1_n (by decide)).trans (g1_s _ _ _))) _).trans pk_us, (congrFun ((g1_n (by decide)).trans (g1_s _ _ _)) _).trans pk_us, (congrFun (g1_s _ _ _) _).trans pk_us⟩)) hP hS (lv_sub hl [1, 2, 3, 0] rfl) (by omega)
  exact cut_20 (_ + 1) 0 (g1 G 70 (upd (upd (G 70) 0 (nI n)) 1 (G (w + 1) 3))) _ _ _ (by first | assumption | omega) (by exact fun k hk => g1_n (by omega)) (by exact (congrFun (g1_s _ _ _) _).trans ((pk_un (by decide)).trans (pk_us))) (by exact (congrFun (g1_s _ _ _) _).trans (pk_us)) (by exact (congrFun (g1_s _ _ _) _).trans ((pk_un (show 6 ≠ 1 by decide)).trans (pk_un (show 6 ≠ 0 by decide)))) (by exact (congrFun (g1_s _ _ _) _).trans ((pk_un (show 7 ≠ 1 by decide)).trans (pk_un (show 7 ≠ 0 by decide)))) (by exact fun j hj => absurd hj (Nat.not_lt_zero j)) hP hS (lv_sub hl [1, 2, 3, 0] rfl) (Nat.lt_succ_self _)
theorem mlRX7_52 : Cond.methodLink RX7 52 yX4_legsBehind ∈ zU := zU_m 561 (by decide +kernel) rfl
theorem mlRX7_58 : Cond.methodLink RX7 58 yX4_secondsTrying ∈ zU := zU_m 562 (by decide +kernel) rfl
theorem flRX7_30 : Cond.fieldLink RX7 30 "WetSuitPedalsShoes$Planner" "toCome" "[[I" ∈ zU := zU_m 222 (by decide +kernel) rfl
set_option maxHeartbeats 4000000 in
set_option maxRecDepth 100000 in
theorem c_X7_secondsFrom (l : Launch) (E : zE) (G : zG) (r : Nat → Int32) (a n : Nat) (i g v : Nat) (hn10 : n ≤ 10) (hVs : zVs r n) (hpn : zPn G r a n) (hi : i < n) (hg : g < 100) (hv : v < 4) : zMi l yX7_secondsFrom wsX7_secondsFrom ({ frames := 2, cells := 0, slots := 0, locals := 45 } : Room) E G [.ref (E.1 70), .int (nI i), .int (nI g), .int (nI v)] (fun r1 G1 => p_with r a i (G (75 + (i + 1))) g v = r1 ∧ G = G1) := by
  refine zOf (cc := cX7_secondsFrom) (nL := 5) (ret := (some .int)) RX7 (by decide) rfl rfl (Nat.le_of_ble_eq_true rfl) ?_
  intro p_ e_ s_ m_ a_ b_ me_ c_ ls C0 hP hS hl
  have hx := C0.1
  have hb := C0.2.1
  have hts := C0.2.2.2.2.1
  have hD : zD E (zA E s_.heap.size) := C0.2.2.2.2.2.2.2.2
  have hA : ∀ q : Nat, s_.heap.size ≤ q → zA E s_.heap.size q := fun q h => Or.inr h
  refine z_gen (fun Q_ hQ_ => ?_)
  have hl : lv_has ls 5 [(0, .ref (E.1 70)), (1, .int (nI i)), (2, .int (nI g)), (3, .int (nI v))] := hl
  refine lv_aload_n hx hb dX7_secondsFrom_0 rfl (lv_at hl 0 rfl) ?_
  refine z_get C0 hP (C := RX7) (T := TX7) (N := 8) (ci := 5) (index := 18) (k := 70) (ref := "WetSuitPedalsShoes$Planner") (zk_lt (rfl : zk 70 = 5) (by decide)) (zd_5 E (rfl : zk 70 = 5) _) rfl (zmi inU_7) 2 (by decide) (zm flRX7_18) rfl (v := .ref (E.1 71)) (rfl) dX7_secondsFrom_1 ?_
  refine lv_iload_n hx hb dX7_secondsFrom_4 rfl (lv_at hl 1 rfl) ?_
  refine z_iald C0 hP (k := 71) (i := i) (v := (r (2 + 3 * i))) (rfl : zk 71 = 11) (Nat.lt_of_lt_of_eq (show i < 10 by omega) (rfl : zl 71 = 10).symm) rfl dX7_secondsFrom_5 ((hpn.2.2 i (by omega)).1) ?_
  refine lv_aload_n hx hb dX7_secondsFrom_6 rfl (lv_at hl 0 rfl) ?_
  refine z_get C0 hP (C := RX7) (T := TX7) (N := 8) (ci := 5) (index := 22) (k := 70) (ref := "WetSuitPedalsShoes$Planner") (zk_lt (rfl : zk 70 = 5) (by decide)) (zd_5 E (rfl : zk 70 = 5) _) rfl (zmi inU_7) 3 (by decide) (zm flRX7_22) rfl (v := .ref (E.1 72)) (rfl) dX7_secondsFrom_7 ?_
  refine lv_iload_n hx hb dX7_secondsFrom_10 rfl (lv_at hl 1 rfl) ?_
  refine z_iald C0 hP (k := 72) (i := i) (v := (r (4 + 3 * i))) (rfl : zk 72 = 11) (Nat.lt_of_lt_of_eq (show i < 10 by omega) (rfl : zl 72 = 10).symm) rfl dX7_secondsFrom_11 ((hpn.2.2 i (by omega)).2.1) ?_
  refine lv_iload_n hx hb dX7_secondsFrom_12 rfl (lv_at hl 3 rfl) ?_
  refine lv_iload_n hx hb dX7_secondsFrom_13 rfl (lv_at hl 2 rfl) ?_
  refine z_Si C0 hP hD hA hS (As := [.int (r (2 + 3 * i)), .int (r (4 + 3 * i)), .int (nI v), .int (nI g)]) (rest := []) (c_X4_legsBehind l E _ (r (2 + 3 * i)) (r (4 + 3 * i)) (nI v) (nI g)) (va_cwS 4 hts (zgS zbw mlRX7_52 stX4_legsBehind iniRX4 coX4_legsBehind) rfl rfl rfl (by decide +kernel) ⟨Nat.le_of_ble_eq_true rfl, Nat.le_of_ble_eq_true rfl⟩) rfl hl.1 rfl (Nat.le_of_ble_eq_true rfl) dX7_secondsFrom_14 ⟨Nat.zero_le _, Nat.zero_le _⟩ (fun r1 G1 H locs hw1 hP hS => ?_)
  obtain ⟨hr1, rfl⟩ := hw1
  have hp9 := p_leg_e hVs hi hg hv
  have hr1 : nI (p_leg r i g v) = _ := (hp9.1.symm.trans (m_leg_k hVs hi)).trans hr1
  have hp8 := hp9.2
  subst hr1
  refine lv_istore (lv' := [(4, .int (nI (p_leg r i g v))), (0, .ref (E.1 70)), (1, .int (nI i)), (2, .int (nI g)), (3, .int (nI v))]) hx hb dX7_secondsFrom_17 hl (by decide) rfl (fun ls hl => ?_)
  refine lv_aload_n hx hb dX7_secondsFrom_19 rfl (lv_at hl 1 rfl) ?_
  refine z_get C0 hP (C := RX7) (T := TX7) (N := 8) (ci := 5) (index := 25) (k := 70) (ref := "WetSuitPedalsShoes$Planner") (zk_lt (rfl : zk 70 = 5) (by decide)) (zd_5 E (rfl : zk 70 = 5) _) rfl (zmi inU_7) 4 (by decide) (zm flRX7_25) rfl (v := .ref (E.1 73)) (rfl) dX7_secondsFrom_20 ?_
  refine lv_iload_n hx hb dX7_secondsFrom_23 rfl (lv_at hl 2 rfl) ?_
  refine z_iald C0 hP (k := 73) (i := i) (v := (m_plain r a i)) (rfl : zk 73 = 11) (Nat.lt_of_lt_of_eq (show i < 10 by omega) (rfl : zl 73 = 10).symm) rfl dX7_secondsFrom_24 ((hpn.2.2 i (by omega)).2.2) ?_
  refine lv_iload_n hx hb dX7_secondsFrom_25 rfl (lv_at hl 4 rfl) ?_
  refine lv_iload_n hx hb dX7_secondsFrom_26 rfl (lv_at hl 3 rfl) ?_
  refine z_Si C0 hP hD hA hS (As := [.int (m_plain r a i), .int (nI v), .int (nI g)]) (rest := []) (c_X4_secondsTrying l E _ (m_plain r a i) (nI v) (nI g)) (va_cwS 3 hts (zgS zbw mlRX7_58 stX4_secondsTrying iniRX4 coX4_secondsTrying) rfl rfl rfl (by decide +kernel) ⟨Nat.le_of_ble_eq_true rfl, Nat.le_of_ble_eq_true rfl⟩) rfl hl.1 rfl (Nat.le_of_ble_eq_true rfl) dX7_secondsFrom_27 ⟨Nat.zero_le _, Nat.zero_le _⟩ (fun r2 G2 H locs hw2 hP hS => ?_)
  obtain ⟨rfl, rfl⟩ := hw2
  refine lv_aload_n hx hb dX7_secondsFrom_30 rfl (lv_at hl 1 rfl) ?_
  refine z_get C0 hP (C := RX7) (T := TX7) (N := 8) (ci := 5) (index := 30) (k := 70) (ref := "WetSuitPedalsShoes$Planner") (zk_lt (rfl : zk 70 = 5) (by decide)) (zd_5 E (rfl : zk 70 = 5) _) rfl (zmi inU_7) 5 (by decide) (zm flRX7_30) rfl (v := .ref (E.1 74)) (rfl) dX7_secondsFrom_31 ?_
  refine lv_iload_n hx hb dX7_secondsFrom_34 rfl (lv_at hl 2 rfl) ?_
  refine lv_iconst (v := (1 : Int32)) hx hb dX7_secondsFrom_35 (by decide) ?_
  refine z_iadd hx hb (a := i) (b := 1) (n := i + 1) dX7_secondsFrom_36 rfl rfl rfl ?_
  refine z_aald2 C0 hP (k := 74) (i := i + 1) (rfl : zk 74 = 13) (by omega) rfl dX7_secondsFrom_37 (fun rw_ hrw_ => ?_)
  have krw_ : zIs rw_ [(0, 11, 100)] := hrw_ ▸ zIs_toc (z_lit_Pla_70) (by omega)
  refine lv_iload hx hb dX7_secondsFrom_38 (lv_at hl 0 rfl) ?_
  refine z_iald C0 hP (k := rw_) (i := p_leg r i g v) (v := (G rw_ (p_leg r i g v))) (krw_ (0, 11, 100) (by decide)).1 (Nat.lt_of_lt_of_eq (show p_leg r i g v < 100 by omega) (krw_ (0, 11, 100) (by decide)).2.symm) rfl dX7_secondsFrom_40 (rfl) ?_
  refine lv_iadd hx hb dX7_secondsFrom_41 ?_
  subst hQ_
  exact z_iret C0 hP hS (v := ((s_sec (m_plain r a i) (nI v) (nI g)) + (G rw_ (p_leg r i g v)))) (by refine ⟨?_, rfl⟩; rw [hrw_, show 74 + 1 + (i + 1) = 75 + (i + 1) by omega]; rfl) dX7_secondsFrom_42
theorem mlRX7_62 : Cond.methodLink RX7 62 yX7_secondsFrom ∈ zU := zU_m 557 (by decide +kernel) rfl
theorem coX7_secondsFrom : Cond.code yX7_secondsFrom cX7_secondsFrom 5 (some .int) ∈ zU := zU_m 560 (by decide +kernel) rfl
theorem imX7_secondsFrom : Cond.instanceMethod yX7_secondsFrom ∈ zU := zU_m 559 (by decide +kernel) rfl
theorem seX7_secondsFrom : Cond.selects RX7 yX7_secondsFrom yX7_secondsFrom ∈ zU := zU_m 14 (by decide +kernel) rfl
theorem iniRX7 : Cond.initialized RX7 ∈ zU := zU_m 55 (by decide +kernel) rfl
set_option maxHeartbeats 4000000 in
set_option maxRecDepth 100000 in
theorem c_X7_easiestBest (l : Launch) (E : zE) (G : zG) (r : Nat → Int32) (a n : Nat) (i g : Nat) (hn10 : n ≤ 10) (hVs : zVs r n) (hpn : zPn G r a n) (hi : i < n) (hg : g < 100) : zMi l yX7_easiestBest wsX7_easiestBest ({ frames := 3, cells := 0, slots := 0, locals := 69 } : Room) E G [.ref (E.1 70), .int (nI i), .int (nI g)] (fun r1 G1 => nI (s_arg (p_with r a i (G (75 + (i + 1))) g) 3) = r1 ∧ G = G1) := by
  refine zOf (cc := cX7_easiestBest) (nL := 5) (ret := (some .int)) RX7 (by decide) rfl rfl (Nat.le_of_ble_eq_true rfl) ?_
  intro p_ e_ s_ m_ a_ b_ me_ c_ ls C0 hP hS hl
  have hx := C0.1
  have hb := C0.2.1
  have hts := C0.2.2.2.2.1
  have hD : zD E (zA E s_.heap.size) := C0.2.2.2.2.2.2.2.2
  have hA : ∀ q : Nat, s_.heap.size ≤ q → zA E s_.heap.size q := fun q h => Or.inr h
  refine z_gen (fun Q_ hQ_ => ?_)
  have hl : lv_has ls 5 [(0, .ref (E.1 70)), (1, .int (nI i)), (2, .int (nI g))] := hl
  refine lv_iconst (v := (0 : Int32)) hx hb dX7_easiestBest_0 (by decide) ?_
  refine lv_istore_n (lv' := [(3, .int (0 : Int32)), (0, .ref (E.1 70)), (1, .int (nI i)), (2, .int (nI g))]) hx hb dX7_easiestBest_1 rfl hl (by decide) rfl (fun ls hl => ?_)
  refine lv_iconst (v := (1 : Int32)) hx hb dX7_easiestBest_2 (by decide) ?_
  refine lv_istore (lv' := [(4, .int (1 : Int32)), (3, .int (0 : Int32)), (0, .ref (E.1 70)), (1, .int (nI i)), (2, .int (nI g))]) hx hb dX7_easiestBest_3 hl (by decide) rfl (fun ls hl => ?_)
  have cut_5 : ∀ (fuel : Nat), ∀ (k m : Nat) (H : Heap) (locs : List Loc) (ls : Array Slot), (1 ≤ k ∧ k ≤ 4 ∧ m < k ∧ m < 4) → (m = s_arg (p_with r a i (G (75 + (i + 1))) g) (k - 1)) → zP E G H → va_S (zA E s_.heap.size) s_.heap H locs → lv_has ls 5 [(0, .ref (E.1 70)), (1, .int (nI i)), (2, .int (nI g)), (3, .int (nI m)), (4, .int (nI k))] → 4 - k < fuel → W p_ l e_ ({ frames := 3, cells := 0, slots := 0, locals := 69 } : Room) s_ m_ a_ b_ me_ c_ H locs 0 0 Q_ (F0 m_ 5 ls []) := by
    intro fuel
    induction fuel with
    | zero =>
      intro k m  H locs ls hk1 hm hP hS hl hfu
      exact absurd hfu (Nat.not_lt_zero _)
    | succ fuel ih_5 =>
      intro k m  H locs ls hk1 hm hP hS hl hfu_5
      refine lv_iload hx hb dX7_easiestBest_5 (lv_at hl 4 rfl) ?_
      refine lv_iconst (v := (3 : Int32)) hx hb dX7_easiestBest_7 (by decide) ?_
      refine z_N_gt hx hb (a := k) (b := 3) (tgt := 38) dX7_easiestBest_8 rfl rfl (by omega) (by omega) (by decide) (fun c_8 => ?_) (fun c_8 => ?_)
      · skip
        refine lv_iload_n hx hb dX7_easiestBest_38 rfl (lv_at hl 3 rfl) ?_
        subst hQ_
        exact z_iret C0 hP hS (v := (nI m)) (by exact ⟨congrArg nI (by rw [hm, show k - 1 = 3 by omega]), rfl⟩) dX7_easiestBest_39
      · skip
        refine lv_aload_n hx hb dX7_easiestBest_11 rfl (lv_at hl 0 rfl) ?_
        refine lv_iload_n hx hb dX7_easiestBest_12 rfl (lv_at hl 1 rfl) ?_
        refine lv_iload_n hx hb dX7_easiestBest_13 rfl (lv_at hl 2 rfl) ?_
        refine lv_iload hx hb dX7_easiestBest_14 (lv_at hl 4 rfl) ?_
        refine z_Vi C0 hP hD hA hS (As := [.int (nI i), .int (nI g), .int (nI k)]) (rest := []) (k := 70) (c_X7_secondsFrom l E _ r a n i g k hn10 hVs hpn (by omega) (by omega) (by omega)) (cwV 3 hts (zgV zbw mlRX7_62 imX7_secondsFrom seX7_secondsFrom iniRX7 coX7_secondsFrom) rfl rfl rfl (by decide +kernel) ⟨Nat.le_of_ble_eq_true rfl, Nat.le_of_ble_eq_true rfl⟩) (zk_lt (rfl : zk 70 = 5) (by decide)) (zd_5 E (rfl : zk 70 = 5) _) rfl rfl rfl hl.1 rfl (Nat.le_of_ble_eq_true rfl) dX7_easiestBest_16 ⟨Nat.zero_le _, Nat.zero_le _⟩ (fun r1 G1 H locs hw1 hP hS => ?_)
        obtain ⟨hr1, rfl⟩ := hw1
        subst hr1
        refine lv_aload_n hx hb dX7_easiestBest_19 rfl (lv_at hl 0 rfl) ?_
        refine lv_iload_n hx hb dX7_easiestBest_20 rfl (lv_at hl 1 rfl) ?_
        refine lv_iload_n hx hb dX7_easiestBest_21 rfl (lv_at hl 2 rfl) ?_
        refine lv_iload_n hx hb dX7_easiestBest_22 rfl (lv_at hl 3 rfl) ?_
        refine z_Vi C0 hP hD hA hS (As := [.int (nI i), .int (nI g), .int (nI m)]) (rest := [.int (p_with r a i (G (75 + (i + 1))) g k)]) (k := 70) (c_X7_secondsFrom l E _ r a n i g m hn10 hVs hpn (by omega) (by omega) (by omega)) (cwV 3 hts (zgV zbw mlRX7_62 imX7_secondsFrom seX7_secondsFrom iniRX7 coX7_secondsFrom) rfl rfl rfl (by decide +kernel) ⟨Nat.le_of_ble_eq_true rfl, Nat.le_of_ble_eq_true rfl⟩) (zk_lt (rfl : zk 70 = 5) (by decide)) (zd_5 E (rfl : zk 70 = 5) _) rfl rfl rfl hl.1 rfl (Nat.le_of_ble_eq_true rfl) dX7_easiestBest_23 ⟨Nat.zero_le _, Nat.zero_le _⟩ (fun r2 G2 H locs hw2 hP hS => ?_)
        obtain ⟨hr2, rfl⟩ := hw2
        subst hr2
        refine lv_icmp_ge (tgt := 32) hx hb dX7_easiestBest_26 (by decide) (fun c_26 => ?_) (fun c_26 => ?_)
        · skip
          have d_26 := Int32.not_lt.mpr c_26
          refine lv_iinc (v := (nI (k + 1))) (lv' := [(4, .int (nI (k + 1))), (0, .ref (E.1 70)), (1, .int (nI i)), (2, .int (nI g)), (3, .int (nI m))]) hx hb dX7_easiestBest_32 hl (k := 4) rfl (z_inc (by decide)) (by decide) rfl (fun ls hl => ?_)
          refine lv_goto (tgt := 5) hx hb dX7_easiestBest_35 (by decide) ?_
          exact ih_5 (k + 1) m _ _ _ (by omega) (by have e1 : k + 1 - 1 = (k - 1) + 1 := (by omega); have e2 : k - 1 + 1 = k := (by omega); rw [e1]; show m = if _ then _ else _; rw [e2, ← hm]; exact (if_neg d_26).symm) hP hS (lv_sub hl [1, 2, 3, 4, 0] rfl) (by omega)
        · skip
          have d_26 := Int32.not_le.mp c_26
          refine lv_iload hx hb dX7_easiestBest_29 (lv_at hl 4 rfl) ?_
          refine lv_istore_n (lv' := [(3, .int (nI k)), (0, .ref (E.1 70)), (1, .int (nI i)), (2, .int (nI g)), (4, .int (nI k))]) hx hb dX7_easiestBest_31 rfl hl (by decide) rfl (fun ls hl => ?_)
          refine lv_iinc (v := (nI (k + 1))) (lv' := [(4, .int (nI (k + 1))), (3, .int (nI k)), (0, .ref (E.1 70)), (1, .int (nI i)), (2, .int (nI g))]) hx hb dX7_easiestBest_32 hl (k := 4) rfl (z_inc (by decide)) (by decide) rfl (fun ls hl => ?_)
          refine lv_goto (tgt := 5) hx hb dX7_easiestBest_35 (by decide) ?_
          exact ih_5 (k + 1) k _ _ _ (by omega) (by have e1 : k + 1 - 1 = (k - 1) + 1 := (by omega); have e2 : k - 1 + 1 = k := (by omega); rw [e1]; show k = if _ then _ else _; rw [e2, ← hm]; exact (if_pos d_26).symm) hP hS (lv_sub hl [2, 3, 4, 1, 0] rfl) (by omega)
  exact cut_5 (_ + 1) 1 0 _ _ _ (by omega) (by rfl) hP hS (lv_sub hl [2, 3, 4, 1, 0] rfl) (Nat.lt_succ_self _)
