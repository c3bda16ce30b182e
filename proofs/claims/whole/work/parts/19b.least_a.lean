/-! laid by wip/whole/vcg.py -/
theorem flRX7_36 : Cond.fieldLink RX7 36 "WetSuitPedalsShoes$Planner" "next" "[I" ∈ zU := zU_m 224 (by decide +kernel) rfl
theorem kkRX7_83 : Cond.constant RX7 83 (1000000) ∈ zU := zU_m 593 (by decide +kernel) rfl
set_option maxHeartbeats 4000000 in
set_option maxRecDepth 100000 in
theorem c_X7_emptyNext (l : Launch) (E : zE) (G : zG) (c d nx rc : Nat) (hcd : c + d = 1) (hrc : rc = 86 + c) (hnx : nx = 86 + d) (h6 : G 70 6 = nI c) (h7 : G 70 7 = nI d)  : zMv l yX7_emptyNext wsX7_emptyNext ({ frames := 0, cells := 0, slots := 0, locals := 0 } : Room) E G [.ref (E.1 70)] (fun G1 => (∀ k, k ≠ nx → G1 k = G k) ∧ ∀ j, j < 3100 → G1 nx j = 1000000) := by
  refine zOf (cc := cX7_emptyNext) (nL := 2) (ret := none) RX7 (by decide) rfl rfl (Nat.le_of_ble_eq_true rfl) ?_
  intro p_ e_ s_ m_ a_ b_ me_ c_ ls C0 hP hS hl
  have hx := C0.1
  have hb := C0.2.1
  have hts := C0.2.2.2.2.1
  have hD : zD E (zA E s_.heap.size) := C0.2.2.2.2.2.2.2.2
  have hA : ∀ q : Nat, s_.heap.size ≤ q → zA E s_.heap.size q := fun q h => Or.inr h
  have knx := zIs_x (x := nx) (show d ≤ 1 by omega) hnx
  have krc := zIs_x (x := rc) (show c ≤ 1 by omega) hrc
  refine z_gen (fun Q_ hQ_ => ?_)
  have hl : lv_has ls 2 [(0, .ref (E.1 70))] := hl
  refine lv_iconst (v := (0 : Int32)) hx hb dX7_emptyNext_0 (by decide) ?_
  refine lv_istore_n (lv' := [(1, .int (0 : Int32)), (0, .ref (E.1 70))]) hx hb dX7_emptyNext_1 rfl hl (by decide) rfl (fun ls hl => ?_)
  have cut_2 : ∀ (fuel : Nat), ∀ (i : Nat) (Gc : zG) (H : Heap) (locs : List Loc) (ls : Array Slot), (i ≤ 3100) → (∀ k, k ≠ nx → Gc k = G k) → (∀ j, j < i → Gc nx j = 1000000) → zP E Gc H → va_S (zA E s_.heap.size) s_.heap H locs → lv_has ls 2 [(0, .ref (E.1 70)), (1, .int (nI i))] → 3100 - i < fuel → W p_ l e_ ({ frames := 0, cells := 0, slots := 0, locals := 0 } : Room) s_ m_ a_ b_ me_ c_ H locs 0 0 Q_ (F0 m_ 2 ls []) := by
    intro fuel
    induction fuel with
    | zero =>
      intro i  Gc  H locs ls hin hFc hv hP hS hl hfu
      exact absurd hfu (Nat.not_lt_zero _)
    | succ fuel ih_2 =>
      intro i  Gc  H locs ls hin hFc hv hP hS hl hfu_2
      refine lv_iload_n hx hb dX7_emptyNext_2 rfl (lv_at hl 1 rfl) ?_
      refine lv_aload_n hx hb dX7_emptyNext_3 rfl (lv_at hl 0 rfl) ?_
      refine z_get C0 hP (C := RX7) (T := TX7) (N := 8) (ci := 5) (index := 36) (k := 70) (ref := "WetSuitPedalsShoes$Planner") (zk_lt (rfl : zk 70 = 5) (by decide)) (zd_5 E (rfl : zk 70 = 5) _) rfl (zmi inU_7) 7 (by decide) (zm flRX7_36) rfl (v := .ref (E.1 nx)) (z_refx ((congrFun (hFc _ (by omega)) _).trans (h7)) (by omega) (by omega)) dX7_emptyNext_4 ?_
      refine z_alen C0 hP (k := nx) (v := (3100 : Int32)) (knx (0, 11, 3100) (by decide)).1 ((congrArg Int32.ofNat (knx (0, 11, 3100) (by decide)).2).trans rfl) dX7_emptyNext_7 ?_
      refine z_N_ge hx hb (a := i) (b := 3100) (tgt := 25) dX7_emptyNext_8 rfl rfl (by omega) (by omega) (by decide) (fun c_8 => ?_) (fun c_8 => ?_)
      · skip
        subst hQ_
        exact z_vret C0 hP hS (by exact ⟨hFc, fun j hj => hv j (by omega)⟩) dX7_emptyNext_25
      · skip
        refine lv_aload_n hx hb dX7_emptyNext_11 rfl (lv_at hl 0 rfl) ?_
        refine z_get C0 hP (C := RX7) (T := TX7) (N := 8) (ci := 5) (index := 36) (k := 70) (ref := "WetSuitPedalsShoes$Planner") (zk_lt (rfl : zk 70 = 5) (by decide)) (zd_5 E (rfl : zk 70 = 5) _) rfl (zmi inU_7) 7 (by decide) (zm flRX7_36) rfl (v := .ref (E.1 nx)) (z_refx ((congrFun (hFc _ (by omega)) _).trans (h7)) (by omega) (by omega)) dX7_emptyNext_12 ?_
        refine lv_iload_n hx hb dX7_emptyNext_15 rfl (lv_at hl 1 rfl) ?_
        refine lv_ldc (v := (1000000 : Int32)) hx hb C0.2.2.2.1 (hts _ (zm kkRX7_83)) dX7_emptyNext_16 ?_
        refine z_iast C0 hP hD hS (k := nx) (i := i) (v := (1000000 : Int32)) (F := Gc nx) (rfl) (knx (0, 11, 3100) (by decide)).1 (Nat.lt_of_lt_of_eq (show i < 3100 by omega) (knx (0, 11, 3100) (by decide)).2.symm) rfl dX7_emptyNext_18 (fun H locs hP hS => ?_)
        refine lv_iinc (v := (nI (i + 1))) (lv' := [(1, .int (nI (i + 1))), (0, .ref (E.1 70))]) hx hb dX7_emptyNext_19 hl (k := 1) rfl (z_inc (by decide)) (by decide) rfl (fun ls hl => ?_)
        refine lv_goto (tgt := 2) hx hb dX7_emptyNext_22 (by decide) ?_
        exact ih_2 (i + 1) (g1 Gc nx (upd (Gc nx) i (1000000 : Int32))) _ _ _ (by first | assumption | omega) (by exact fun k hk => (g1_n (by omega)).trans (hFc k (by omega))) (by intro j hj; exact (congrFun (g1_s _ _ _) j).trans (s_up_l (g := fun _ => 1000000) hv rfl j hj)) hP hS (lv_sub hl [1, 0] rfl) (by omega)
  exact cut_2 (_ + 1) 0 G _ _ _ (by first | assumption | omega) (by exact fun k hk => rfl) (by exact fun j hj => absurd hj (Nat.not_lt_zero j)) hP hS (lv_sub hl [1, 0] rfl) (Nat.lt_succ_self _)
theorem flRX7_33 : Cond.fieldLink RX7 33 "WetSuitPedalsShoes$Planner" "reached" "[I" ∈ zU := zU_m 223 (by decide +kernel) rfl
theorem mlRX7_73 : Cond.methodLink RX7 73 yX7_emptyNext ∈ zU := zU_m 589 (by decide +kernel) rfl
theorem coX7_emptyNext : Cond.code yX7_emptyNext cX7_emptyNext 2 none ∈ zU := zU_m 592 (by decide +kernel) rfl
theorem imX7_emptyNext : Cond.instanceMethod yX7_emptyNext ∈ zU := zU_m 591 (by decide +kernel) rfl
theorem seX7_emptyNext : Cond.selects RX7 yX7_emptyNext yX7_emptyNext ∈ zU := zU_m 15 (by decide +kernel) rfl
set_option maxHeartbeats 4000000 in
set_option maxRecDepth 100000 in
theorem c_X7_takeNext (l : Launch) (E : zE) (G : zG) (c d nx rc : Nat) (hcd : c + d = 1) (hrc : rc = 86 + c) (hnx : nx = 86 + d) (h6 : G 70 6 = nI c) (h7 : G 70 7 = nI d)  : zMv l yX7_takeNext wsX7_takeNext ({ frames := 1, cells := 0, slots := 0, locals := 21 } : Room) E G [.ref (E.1 70)] (fun G1 => G1 70 = upd (upd (G 70) 6 (nI d)) 7 (nI c) ∧ (∀ k, (k ≠ 70 ∧ k ≠ rc) → G1 k = G k) ∧ ∀ j, j < 3100 → G1 rc j = 1000000) := by
  refine zOf (cc := cX7_takeNext) (nL := 2) (ret := none) RX7 (by decide) rfl rfl (Nat.le_of_ble_eq_true rfl) ?_
  intro p_ e_ s_ m_ a_ b_ me_ c_ ls C0 hP hS hl
  have hx := C0.1
  have hb := C0.2.1
  have hts := C0.2.2.2.2.1
  have hD : zD E (zA E s_.heap.size) := C0.2.2.2.2.2.2.2.2
  have hA : ∀ q : Nat, s_.heap.size ≤ q → zA E s_.heap.size q := fun q h => Or.inr h
  have knx := zIs_x (x := nx) (show d ≤ 1 by omega) hnx
  have krc := zIs_x (x := rc) (show c ≤ 1 by omega) hrc
  refine z_gen (fun Q_ hQ_ => ?_)
  have hl : lv_has ls 2 [(0, .ref (E.1 70))] := hl
  refine lv_aload_n hx hb dX7_takeNext_0 rfl (lv_at hl 0 rfl) ?_
  refine z_get C0 hP (C := RX7) (T := TX7) (N := 8) (ci := 5) (index := 33) (k := 70) (ref := "WetSuitPedalsShoes$Planner") (zk_lt (rfl : zk 70 = 5) (by decide)) (zd_5 E (rfl : zk 70 = 5) _) rfl (zmi inU_7) 6 (by decide) (zm flRX7_33) rfl (v := .ref (E.1 rc)) (z_refx (h6) (by omega) (by omega)) dX7_takeNext_1 ?_
  refine lv_astore_n (lv' := [(1, .ref (E.1 rc)), (0, .ref (E.1 70))]) hx hb dX7_takeNext_4 rfl hl (by decide) rfl (fun ls hl => ?_)
  refine lv_aload_n hx hb dX7_takeNext_5 rfl (lv_at hl 1 rfl) ?_
  refine lv_aload_n hx hb dX7_takeNext_6 rfl (lv_at hl 1 rfl) ?_
  refine z_get C0 hP (C := RX7) (T := TX7) (N := 8) (ci := 5) (index := 36) (k := 70) (ref := "WetSuitPedalsShoes$Planner") (zk_lt (rfl : zk 70 = 5) (by decide)) (zd_5 E (rfl : zk 70 = 5) _) rfl (zmi inU_7) 7 (by decide) (zm flRX7_36) rfl (v := .ref (E.1 nx)) (z_refx (h7) (by omega) (by omega)) dX7_takeNext_7 ?_
  refine z_put C0 hP hD hS (C := RX7) (T := TX7) (N := 8) (ci := 5) (index := 33) (k := 70) (ref := "WetSuitPedalsShoes$Planner") (F := G 70) (ty := .array .int) (rfl) tyX7 tyX7_ok nmX7 (zk_lt (rfl : zk 70 = 5) (by decide)) (zd_5 E (rfl : zk 70 = 5) _) rfl (zmi inU_7) 6 (by decide) (zm flRX7_33) rfl rfl (by decide +kernel) (by rfl) rfl (by show 6 < 8; decide) (upd (G 70) 6 (nI d)) ((zd_5 E (rfl : zk 70 = 5) _).trans ((by have e9 : 70 + 16 + (nI d).toNatClampNeg = nx := (by rw [nI_clamp (by omega)]; omega); exact congrArg (fun z_ : Nat => (Sum.inr (5, [Value.int ((G 70) 0), Value.int ((G 70) 1), Value.ref (E.1 (70 + 1)), Value.ref (E.1 (70 + 2)), Value.ref (E.1 (70 + 3)), Value.ref (E.1 (70 + 4)), Value.ref (E.1 z_), Value.ref (E.1 (70 + 16 + ((G 70) 7).toNatClampNeg))]) : va_E)) e9))) dX7_takeNext_10 (fun H locs hP hS => ?_)
  refine lv_aload_n hx hb dX7_takeNext_13 rfl (lv_at hl 1 rfl) ?_
  refine lv_aload_n hx hb dX7_takeNext_14 rfl (lv_at hl 0 rfl) ?_
  refine z_put C0 hP hD hS (C := RX7) (T := TX7) (N := 8) (ci := 5) (index := 36) (k := 70) (ref := "WetSuitPedalsShoes$Planner") (F := (upd (G 70) 6 (nI d))) (ty := .array .int) (g1_s _ _ _) tyX7 tyX7_ok nmX7 (zk_lt (rfl : zk 70 = 5) (by decide)) (zd_5 E (rfl : zk 70 = 5) _) rfl (zmi inU_7) 7 (by decide) (zm flRX7_36) rfl rfl (by decide +kernel) (by rfl) rfl (by show 7 < 8; decide) (upd (upd (G 70) 6 (nI d)) 7 (nI c)) ((zd_5 E (rfl : zk 70 = 5) _).trans ((by have e9 : 70 + 16 + (nI c).toNatClampNeg = rc := (by rw [nI_clamp (by omega)]; omega); exact congrArg (fun z_ : Nat => (Sum.inr (5, [Value.int ((upd (G 70) 6 (nI d)) 0), Value.int ((upd (G 70) 6 (nI d)) 1), Value.ref (E.1 (70 + 1)), Value.ref (E.1 (70 + 2)), Value.ref (E.1 (70 + 3)), Value.ref (E.1 (70 + 4)), Value.ref (E.1 (70 + 16 + ((upd (G 70) 6 (nI d)) 6).toNatClampNeg)), Value.ref (E.1 z_)]) : va_E)) e9))) dX7_takeNext_15 (fun H locs hP hS => ?_)
  have hP := zP_eq (g1_t _ _ _ _ : _ = (g1 G 70 (upd (upd (G 70) 6 (nI d)) 7 (nI c)))) hP
  refine lv_aload_n hx hb dX7_takeNext_18 rfl (lv_at hl 1 rfl) ?_
  refine z_Vv C0 hP hD hA hS (As := []) (rest := []) (k := 70) (c_X7_emptyNext l E _ d c rc nx (by omega) hnx hrc ((congrFun (g1_s _ _ _) _).trans ((pk_un (by decide)).trans (pk_us))) ((congrFun (g1_s _ _ _) _).trans (pk_us))) (cwV 0 hts (zgV zbw mlRX7_73 imX7_emptyNext seX7_emptyNext iniRX7 coX7_emptyNext) rfl rfl rfl (by decide +kernel) ⟨Nat.le_of_ble_eq_true rfl, Nat.le_of_ble_eq_true rfl⟩) (zk_lt (rfl : zk 70 = 5) (by decide)) (zd_5 E (rfl : zk 70 = 5) _) rfl rfl rfl hl.1 rfl (Nat.le_of_ble_eq_true rfl) dX7_takeNext_19 ⟨Nat.zero_le _, Nat.zero_le _⟩ (fun G1 H locs hw1 hP hS => ?_)
  obtain ⟨hF1, hv1⟩ := hw1
  subst hQ_
  exact z_vret C0 hP hS (by exact ⟨(hF1 _ (by omega)).trans (g1_s _ _ _), (fun k hk => (hF1 k (by omega)).trans (g1_n (by omega))), hv1⟩) dX7_takeNext_22
theorem mlRX7_88 : Cond.methodLink RX7 88 Lib.Math.min.name ∈ zU := zU_m 606 (by decide +kernel) rfl
set_option maxHeartbeats 4000000 in
set_option maxRecDepth 100000 in
theorem c_X7_goOnFromLegs (l : Launch) (E : zE) (G : zG) (r : Nat → Int32) (a n i x g s t : Nat) (P : Nat → Nat → Nat → Prop) (c d nx rc : Nat) (hcd : c + d = 1) (hrc : rc = 86 + c) (hnx : nx = 86 + d) (h6 : G 70 6 = nI c) (h7 : G 70 7 = nI d) (hn10 : n ≤ 10) (hVs : zVs r n) (hpn : zPn G r a n) (hVa : zVa r a) (hi : i < n) (hx : x ≤ 3 * i) (hg : g < 100) (hs1 : rch r a i x g s) (hs2 : ∀ s2, rch r a i x g s2 → s2 ≤ t → s ≤ s2) (hT : tab 1000000 t (rcp r a i (fun y z w => P y z w)) (fun x g => G nx (x * 100 + g))) : zMv l yX7_goOnFromLegs wsX7_goOnFromLegs ({ frames := 2, cells := 0, slots := 0, locals := 45 } : Room) E G [.ref (E.1 70), .int (nI i), .int (nI x), .int (nI g), .int (nI s)] (fun G1 => (∀ k, k ≠ nx → G1 k = G k) ∧ tab 1000000 t (rcp r a i (fun y z w => P y z w ∨ (y = x ∧ z = g))) (fun x g => G1 nx (x * 100 + g))) := by
  refine zOf (cc := cX7_goOnFromLegs) (nL := 9) (ret := none) RX7 (by decide) rfl rfl (Nat.le_of_ble_eq_true rfl) ?_
  intro p_ e_ s_ m_ a_ b_ me_ c_ ls C0 hP hS hl
  have hx := C0.1
  have hb := C0.2.1
  have hts := C0.2.2.2.2.1
  have hD : zD E (zA E s_.heap.size) := C0.2.2.2.2.2.2.2.2
  have hA : ∀ q : Nat, s_.heap.size ≤ q → zA E s_.heap.size q := fun q h => Or.inr h
  have knx := zIs_x (x := nx) (show d ≤ 1 by omega) hnx
  have krc := zIs_x (x := rc) (show c ≤ 1 by omega) hrc
  refine z_gen (fun Q_ hQ_ => ?_)
  have hl : lv_has ls 9 [(0, .ref (E.1 70)), (1, .int (nI i)), (2, .int (nI x)), (3, .int (nI g)), (4, .int (nI s))] := hl
  refine lv_iconst (v := (0 : Int32)) hx hb dX7_goOnFromLegs_0 (by decide) ?_
  refine lv_istore (lv' := [(5, .int (0 : Int32)), (0, .ref (E.1 70)), (1, .int (nI i)), (2, .int (nI x)), (3, .int (nI g)), (4, .int (nI s))]) hx hb dX7_goOnFromLegs_1 hl (by decide) rfl (fun ls hl => ?_)
  have cut_3 : ∀ (fuel : Nat), ∀ (v : Nat) (Gc : zG) (H : Heap) (locs : List Loc) (ls : Array Slot), (v ≤ 4) → (∀ k, k ≠ nx → Gc k = G k) → (tab 1000000 t (rcp r a i (fun y z w => P y z w ∨ (y = x ∧ z = g ∧ w < v))) (fun x g => Gc nx (x * 100 + g))) → zP E Gc H → va_S (zA E s_.heap.size) s_.heap H locs → lv_has ls 9 [(0, .ref (E.1 70)), (1, .int (nI i)), (2, .int (nI x)), (3, .int (nI g)), (4, .int (nI s)), (5, .int (nI v))] → 4 - v < fuel → W p_ l e_ ({ frames := 2, cells := 0, slots := 0, locals := 45 } : Room) s_ m_ a_ b_ me_ c_ H locs 0 0 Q_ (F0 m_ 3 ls []) := by
    intro fuel
    induction fuel with
    | zero =>
      intro v  Gc  H locs ls hv4 hFc hTc hP hS hl hfu
      exact absurd hfu (Nat.not_lt_zero _)
    | succ fuel ih_3 =>
      intro v  Gc  H locs ls hv4 hFc hTc hP hS hl hfu_3
      refine lv_iload hx hb dX7_goOnFromLegs_3 (lv_at hl 5 rfl) ?_
      refine lv_iconst (v := (3 : Int32)) hx hb dX7_goOnFromLegs_5 (by decide) ?_
      refine z_N_gt hx hb (a := v) (b := 3) (tgt := 83) dX7_goOnFromLegs_6 rfl rfl (by omega) (by omega) (by decide) (fun c_6 => ?_) (fun c_6 => ?_)
      · skip
        subst hQ_
        exact z_vret C0 hP hS (by exact ⟨hFc, tab_P hVs hVa hn10 hi hTc (fun y z w _ _ hw => ⟨fun q => q.elim Or.inl (fun q => Or.inr ⟨q.1, q.2, by omega⟩), fun q => q.elim Or.inl (fun q => Or.inr ⟨q.1, q.2.1⟩)⟩) (fun _ _ _ _ => rfl)⟩) dX7_goOnFromLegs_83
      · skip
        have hv : v < 4 := by omega
        refine lv_aload_n hx hb dX7_goOnFromLegs_9 rfl (lv_at hl 0 rfl) ?_
        refine z_get C0 hP (C := RX7) (T := TX7) (N := 8) (ci := 5) (index := 18) (k := 70) (ref := "WetSuitPedalsShoes$Planner") (zk_lt (rfl : zk 70 = 5) (by decide)) (zd_5 E (rfl : zk 70 = 5) _) rfl (zmi inU_7) 2 (by decide) (zm flRX7_18) rfl (v := .ref (E.1 71)) (rfl) dX7_goOnFromLegs_10 ?_
        refine lv_iload_n hx hb dX7_goOnFromLegs_13 rfl (lv_at hl 1 rfl) ?_
        refine z_iald C0 hP (k := 71) (i := i) (v := (r (2 + 3 * i))) (rfl : zk 71 = 11) (Nat.lt_of_lt_of_eq (show i < 10 by omega) (rfl : zl 71 = 10).symm) rfl dX7_goOnFromLegs_14 ((congrFun (hFc _ (by omega)) _).trans ((hpn.2.2 i (by omega)).1)) ?_
        refine lv_aload_n hx hb dX7_goOnFromLegs_15 rfl (lv_at hl 0 rfl) ?_
        refine z_get C0 hP (C := RX7) (T := TX7) (N := 8) (ci := 5) (index := 22) (k := 70) (ref := "WetSuitPedalsShoes$Planner") (zk_lt (rfl : zk 70 = 5) (by decide)) (zd_5 E (rfl : zk 70 = 5) _) rfl (zmi inU_7) 3 (by decide) (zm flRX7_22) rfl (v := .ref (E.1 72)) (rfl) dX7_goOnFromLegs_16 ?_
        refine lv_iload_n hx hb dX7_goOnFromLegs_19 rfl (lv_at hl 1 rfl) ?_
        refine z_iald C0 hP (k := 72) (i := i) (v := (r (4 + 3 * i))) (rfl : zk 72 = 11) (Nat.lt_of_lt_of_eq (show i < 10 by omega) (rfl : zl 72 = 10).symm) rfl dX7_goOnFromLegs_20 ((congrFun (hFc _ (by omega)) _).trans ((hpn.2.2 i (by omega)).2.1)) ?_
        refine lv_iload hx hb dX7_goOnFromLegs_21 (lv_at hl 5 rfl) ?_
        refine lv_iload_n hx hb dX7_goOnFromLegs_23 rfl (lv_at hl 3 rfl) ?_
        refine z_Si C0 hP hD hA hS (As := [.int (r (2 + 3 * i)), .int (r (4 + 3 * i)), .int (nI v), .int (nI g)]) (rest := []) (c_X4_legsBehind l E _ (r (2 + 3 * i)) (r (4 + 3 * i)) (nI v) (nI g)) (va_cwS 4 hts (zgS zbw mlRX7_52 stX4_legsBehind iniRX4 coX4_legsBehind) rfl rfl rfl (by decide +kernel) ⟨Nat.le_of_ble_eq_true rfl, Nat.le_of_ble_eq_true rfl⟩) rfl hl.1 rfl (Nat.le_of_ble_eq_true rfl) dX7_goOnFromLegs_24 ⟨Nat.zero_le _, Nat.zero_le _⟩ (fun r1 G1 H locs hw1 hP hS => ?_)
        obtain ⟨hr1, rfl⟩ := hw1
        have hp9 := p_leg_e hVs hi hg hv
        have hr1 : nI (p_leg r i g v) = _ := (hp9.1.symm.trans (m_leg_k hVs hi)).trans hr1
        have hp8 := hp9.2
        subst hr1
        refine lv_istore (lv' := [(6, .int (nI (p_leg r i g v))), (0, .ref (E.1 70)), (1, .int (nI i)), (2, .int (nI x)), (3, .int (nI g)), (4, .int (nI s)), (5, .int (nI v))]) hx hb dX7_goOnFromLegs_27 hl (by decide) rfl (fun ls hl => ?_)
        refine lv_iload_n hx hb dX7_goOnFromLegs_29 rfl (lv_at hl 3 rfl) ?_
        refine lv_iload hx hb dX7_goOnFromLegs_30 (lv_at hl 6 rfl) ?_
        refine z_iadd hx hb (a := x) (b := v) (n := x + v) dX7_goOnFromLegs_32 rfl rfl rfl ?_
        refine lv_bipush (v := (100 : Int32)) hx hb dX7_goOnFromLegs_33 (by decide) ?_
        refine z_imul hx hb (a := x + v) (b := 100) (n := (x + v) * 100) dX7_goOnFromLegs_35 rfl rfl rfl ?_
        refine lv_iload hx hb dX7_goOnFromLegs_36 (lv_at hl 0 rfl) ?_
        refine z_iadd hx hb (a := (x + v) * 100) (b := p_leg r i g v) (n := ((x + v) * 100) + (p_leg r i g v)) dX7_goOnFromLegs_38 rfl rfl rfl ?_
        refine lv_istore (lv' := [(7, .int (nI (((x + v) * 100) + (p_leg r i g v)))), (6, .int (nI (p_leg r i g v))), (0, .ref (E.1 70)), (1, .int (nI i)), (2, .int (nI x)), (3, .int (nI g)), (4, .int (nI s)), (5, .int (nI v))]) hx hb dX7_goOnFromLegs_39 hl (by decide) rfl (fun ls hl => ?_)
        refine lv_iload hx hb dX7_goOnFromLegs_41 (lv_at hl 6 rfl) ?_
        refine lv_aload_n hx hb dX7_goOnFromLegs_43 rfl (lv_at hl 2 rfl) ?_
        refine z_get C0 hP (C := RX7) (T := TX7) (N := 8) (ci := 5) (index := 25) (k := 70) (ref := "WetSuitPedalsShoes$Planner") (zk_lt (rfl : zk 70 = 5) (by decide)) (zd_5 E (rfl : zk 70 = 5) _) rfl (zmi inU_7) 4 (by decide) (zm flRX7_25) rfl (v := .ref (E.1 73)) (rfl) dX7_goOnFromLegs_44 ?_
        refine lv_iload_n hx hb dX7_goOnFromLegs_47 rfl (lv_at hl 3 rfl) ?_
        refine z_iald C0 hP (k := 73) (i := i) (v := (m_plain r a i)) (rfl : zk 73 = 11) (Nat.lt_of_lt_of_eq (show i < 10 by omega) (rfl : zl 73 = 10).symm) rfl dX7_goOnFromLegs_48 ((congrFun (hFc _ (by omega)) _).trans ((hpn.2.2 i (by omega)).2.2)) ?_
        refine lv_iload hx hb dX7_goOnFromLegs_49 (lv_at hl 7 rfl) ?_
        refine lv_iload_n hx hb dX7_goOnFromLegs_51 rfl (lv_at hl 5 rfl) ?_
        refine z_Si C0 hP hD hA hS (As := [.int (m_plain r a i), .int (nI v), .int (nI g)]) (rest := [.int (nI s)]) (c_X4_secondsTrying l E _ (m_plain r a i) (nI v) (nI g)) (va_cwS 3 hts (zgS zbw mlRX7_58 stX4_secondsTrying iniRX4 coX4_secondsTrying) rfl rfl rfl (by decide +kernel) ⟨Nat.le_of_ble_eq_true rfl, Nat.le_of_ble_eq_true rfl⟩) rfl hl.1 rfl (Nat.le_of_ble_eq_true rfl) dX7_goOnFromLegs_52 ⟨Nat.zero_le _, Nat.zero_le _⟩ (fun r2 G2 H locs hw2 hP hS => ?_)
        obtain ⟨rfl, rfl⟩ := hw2
        refine lv_iadd hx hb dX7_goOnFromLegs_55 ?_
        refine z_eqi (y := (nI (s + q_s r a i v g))) (by rw [(q_s_e hVs hVa hi hv).1, nI_add]) ?_
        refine lv_istore (lv' := [(8, .int (nI (s + q_s r a i v g))), (7, .int (nI (((x + v) * 100) + (p_leg r i g v)))), (6, .int (nI (p_leg r i g v))), (0, .ref (E.1 70)), (1, .int (nI i)), (2, .int (nI x)), (3, .int (nI g)), (4, .int (nI s)), (5, .int (nI v))]) hx hb dX7_goOnFromLegs_56 hl (by decide) rfl (fun ls hl => ?_)
        refine lv_aload_n hx hb dX7_goOnFromLegs_58 rfl (lv_at hl 3 rfl) ?_
        refine z_get C0 hP (C := RX7) (T := TX7) (N := 8) (ci := 5) (index := 36) (k := 70) (ref := "WetSuitPedalsShoes$Planner") (zk_lt (rfl : zk 70 = 5) (by decide)) (zd_5 E (rfl : zk 70 = 5) _) rfl (zmi inU_7) 7 (by decide) (zm flRX7_36) rfl (v := .ref (E.1 nx)) (z_refx ((congrFun (hFc _ (by omega)) _).trans (h7)) (by omega) (by omega)) dX7_goOnFromLegs_59 ?_
        refine lv_iload hx hb dX7_goOnFromLegs_62 (lv_at hl 1 rfl) ?_
        refine lv_aload_n hx hb dX7_goOnFromLegs_64 rfl (lv_at hl 3 rfl) ?_
        refine z_get C0 hP (C := RX7) (T := TX7) (N := 8) (ci := 5) (index := 36) (k := 70) (ref := "WetSuitPedalsShoes$Planner") (zk_lt (rfl : zk 70 = 5) (by decide)) (zd_5 E (rfl : zk 70 = 5) _) rfl (zmi inU_7) 7 (by decide) (zm flRX7_36) rfl (v := .ref (E.1 nx)) (z_refx ((congrFun (hFc _ (by omega)) _).trans (h7)) (by omega) (by omega)) dX7_goOnFromLegs_65 ?_
        refine lv_iload hx hb dX7_goOnFromLegs_68 (lv_at hl 1 rfl) ?_
        refine z_iald C0 hP (k := nx) (i := ((x + v) * 100) + (p_leg r i g v)) (v := (Gc nx (((x + v) * 100) + (p_leg r i g v)))) (knx (0, 11, 3100) (by decide)).1 (Nat.lt_of_lt_of_eq (show ((x + v) * 100) + (p_leg r i g v) < 3100 by omega) (knx (0, 11, 3100) (by decide)).2.symm) rfl dX7_goOnFromLegs_70 (rfl) ?_
        refine lv_iload hx hb dX7_goOnFromLegs_71 (lv_at hl 0 rfl) ?_
        refine va_mmin hx hb (C0.2.2.1.trans hl.1.symm) C0.2.2.2.1 (hts _ (zm mlRX7_88)) (hts _ (zm sMath_min)) (hts _ (zm iniMath)) (hts _ (zm coMath_min)) (Nat.le_of_ble_eq_true rfl) (Nat.le_of_ble_eq_true rfl) (Nat.zero_le _) (Nat.zero_le _) dX7_goOnFromLegs_73 ?_
        refine z_eqi (y := (s_mn (Gc nx (((x + v) * 100) + (p_leg r i g v))) (nI (s + q_s r a i v g)))) (by unfold s_mn; congr) ?_
        refine z_iast C0 hP hD hS (k := nx) (i := ((x + v) * 100) + (p_leg r i g v)) (v := (s_mn (Gc nx (((x + v) * 100) + (p_leg r i g v))) (nI (s + q_s r a i v g)))) (F := Gc nx) (rfl) (knx (0, 11, 3100) (by decide)).1 (Nat.lt_of_lt_of_eq (show ((x + v) * 100) + (p_leg r i g v) < 3100 by omega) (knx (0, 11, 3100) (by decide)).2.symm) rfl dX7_goOnFromLegs_76 (fun H locs hP hS => ?_)
        refine lv_iinc (v := (nI (v + 1))) (lv' := [(5, .int (nI (v + 1))), (8, .int (nI (s + q_s r a i v g))), (7, .int (nI (((x + v) * 100) + (p_leg r i g v)))), (6, .int (nI (p_leg r i g v))), (0, .ref (E.1 70)), (1, .int (nI i)), (2, .int (nI x)), (3, .int (nI g)), (4, .int (nI s))]) hx hb dX7_goOnFromLegs_77 hl (k := 8) rfl (z_inc (by decide)) (by decide) rfl (fun ls hl => ?_)
        refine lv_goto (tgt := 3) hx hb dX7_goOnFromLegs_80 (by decide) ?_
        exact ih_3 (v + 1) (g1 Gc nx (upd (Gc nx) (((x + v) * 100) + (p_leg r i g v)) (s_mn (Gc nx (((x + v) * 100) + (p_leg r i g v))) (nI (s + q_s r a i v g))))) _ _ _ (by first | assumption | omega) (by exact fun k hk => (g1_n (by omega)).trans (hFc k (by omega))) (by exact tab_go hVs hVa hn10 hi (by decide) hTc hv hs1 hs2 (fun y z w _ _ _ => po_v) (fun y z hy hz q => (congrFun (g1_s _ _ _) _).trans (pk_un (fun e => q (by omega)))) (by have h9 : (g1 Gc nx (upd (Gc nx) (((x + v) * 100) + (p_leg r i g v)) (s_mn (Gc nx (((x + v) * 100) + (p_leg r i g v))) (nI (s + q_s r a i v g))))) nx (((x + v) * 100) + (p_leg r i g v)) = s_mn (Gc nx (((x + v) * 100) + (p_leg r i g v))) (nI (s + q_s r a i v g)) := (congrFun (g1_s _ _ _) (((x + v) * 100) + (p_leg r i g v))).trans pk_us; rcases mn_two (x := Gc nx (((x + v) * 100) + (p_leg r i g v))) (y := nI (s + q_s r a i v g)) with ⟨q1, q2⟩ | ⟨q1, q2⟩; (exact Or.inl ⟨h9.trans q1, q2⟩); (exact Or.inr ⟨h9.trans q1, q2⟩))) hP hS (lv_sub hl [4, 5, 6, 7, 8, 0] rfl) (by omega)
  exact cut_3 (_ + 1) 0 G _ _ _ (by first | assumption | omega) (by exact fun k hk => rfl) (by exact tab_P hVs hVa hn10 hi hT (fun y z w _ _ _ => ⟨fun q => q.elim id (fun q => absurd q.2.2 (Nat.not_lt_zero w)), Or.inl⟩) (fun _ _ _ _ => rfl)) hP hS (lv_sub hl [1, 2, 3, 4, 5, 0] rfl) (Nat.lt_succ_self _)
theorem mlRX7_84 : Cond.methodLink RX7 84 yX7_goOnFromLegs ∈ zU := zU_m 602 (by decide +kernel) rfl
theorem coX7_goOnFromLegs : Cond.code yX7_goOnFromLegs cX7_goOnFromLegs 9 none ∈ zU := zU_m 605 (by decide +kernel) rfl
theorem imX7_goOnFromLegs : Cond.instanceMethod yX7_goOnFromLegs ∈ zU := zU_m 604 (by decide +kernel) rfl
theorem seX7_goOnFromLegs : Cond.selects RX7 yX7_goOnFromLegs yX7_goOnFromLegs ∈ zU := zU_m 18 (by decide +kernel) rfl
set_option maxHeartbeats 4000000 in
set_option maxRecDepth 100000 in
theorem c_X7_goOnFrom (l : Launch) (E : zE) (G : zG) (r : Nat → Int32) (a n i x t : Nat) (c d nx rc : Nat) (hcd : c + d = 1) (hrc : rc = 86 + c) (hnx : nx = 86 + d) (h6 : G 70 6 = nI c) (h7 : G 70 7 = nI d) (hn10 : n ≤ 10) (hVs : zVs r n) (hpn : zPn G r a n) (hVa : zVa r a) (hi : i < n) (hx0 : x ≤ 3 * i) (ht : t < 1000) (hSr : tab 1000000 t (rch r a i) (fun x g => G rc (x * 100 + g))) (hT : tab 1000000 t (rcp r a i (fun y z w => y < x)) (fun x g => G nx (x * 100 + g))) : zMv l yX7_goOnFrom wsX7_goOnFrom ({ frames := 3, cells := 0, slots := 0, locals := 73 } : Room) E G [.ref (E.1 70), .int (nI i), .int (nI x), .int (nI t)] (fun G1 => (∀ k, k ≠ nx → G1 k = G k) ∧ tab 1000000 t (rcp r a i (fun y z w => y < x + 1)) (fun x g => G1 nx (x * 100 + g))) := by
  refine zOf (cc := cX7_goOnFrom) (nL := 6) (ret := none) RX7 (by decide) rfl rfl (Nat.le_of_ble_eq_true rfl) ?_
  intro p_ e_ s_ m_ a_ b_ me_ c_ ls C0 hP hS hl
  have hx := C0.1
  have hb := C0.2.1
  have hts := C0.2.2.2.2.1
  have hD : zD E (zA E s_.heap.size) := C0.2.2.2.2.2.2.2.2
  have hA : ∀ q : Nat, s_.heap.size ≤ q → zA E s_.heap.size q := fun q h => Or.inr h
  have knx := zIs_x (x := nx) (show d ≤ 1 by omega) hnx
  have krc := zIs_x (x := rc) (show c ≤ 1 by omega) hrc
  refine z_gen (fun Q_ hQ_ => ?_)
  have hl : lv_has ls 6 [(0, .ref (E.1 70)), (1, .int (nI i)), (2, .int (nI x)), (3, .int (nI t))] := hl
  refine lv_iconst (v := (0 : Int32)) hx hb dX7_goOnFrom_0 (by decide) ?_
  refine lv_istore (lv' := [(4, .int (0 : Int32)), (0, .ref (E.1 70)), (1, .int (nI i)), (2, .int (nI x)), (3, .int (nI t))]) hx hb dX7_goOnFrom_1 hl (by decide) rfl (fun ls hl => ?_)
  have cut_3 : ∀ (fuel : Nat), ∀ (g : Nat) (Gc : zG) (H : Heap) (locs : List Loc) (ls : Array Slot), (g ≤ 100) → (∀ k, k ≠ nx → Gc k = G k) → (tab 1000000 t (rcp r a i (fun y z w => y < x ∨ (y = x ∧ z < g))) (fun x g => Gc nx (x * 100 + g))) → zP E Gc H → va_S (zA E s_.heap.size) s_.heap H locs → lv_has ls 6 [(0, .ref (E.1 70)), (1, .int (nI i)), (2, .int (nI x)), (3, .int (nI t)), (4, .int (nI g))] → 100 - g < fuel → W p_ l e_ ({ frames := 3, cells := 0, slots := 0, locals := 73 } : Room) s_ m_ a_ b_ me_ c_ H locs 0 0 Q_ (F0 m_ 3 ls []) := by
    intro fuel
    induction fuel with
    | zero =>
      intro g  Gc  H locs ls hg hFc hTc hP hS hl hfu
      exact absurd hfu (Nat.not_lt_zero _)
    | succ fuel ih_3 =>
      intro g  Gc  H locs ls hg hFc hTc hP hS hl hfu_3
      refine lv_iload hx hb dX7_goOnFrom_3 (lv_at hl 4 rfl) ?_
      refine lv_bipush (v := (100 : Int32)) hx hb dX7_goOnFrom_5 (by decide) ?_
      refine z_N_ge hx hb (a := g) (b := 100) (tgt := 46) dX7_goOnFrom_7 rfl rfl (by omega) (by omega) (by decide) (fun c_7 => ?_) (fun c_7 => ?_)
      · skip
        subst hQ_
        exact z_vret C0 hP hS (by exact ⟨hFc, tab_P hVs hVa hn10 hi hTc (fun y z w _ hz _ => by omega) (fun _ _ _ _ => rfl)⟩) dX7_goOnFrom_46
      · skip
        refine lv_aload_n hx hb dX7_goOnFrom_10 rfl (lv_at hl 0 rfl) ?_
        refine z_get C0 hP (C := RX7) (T := TX7) (N := 8) (ci := 5) (index := 33) (k := 70) (ref := "WetSuitPedalsShoes$Planner") (zk_lt (rfl : zk 70 = 5) (by decide)) (zd_5 E (rfl : zk 70 = 5) _) rfl (zmi inU_7) 6 (by decide) (zm flRX7_33) rfl (v := .ref (E.1 rc)) (z_refx ((congrFun (hFc _ (by omega)) _).trans (h6)) (by omega) (by omega)) dX7_goOnFrom_11 ?_
        refine lv_iload_n hx hb dX7_goOnFrom_14 rfl (lv_at hl 2 rfl) ?_
        refine lv_bipush (v := (100 : Int32)) hx hb dX7_goOnFrom_15 (by decide) ?_
        refine z_imul hx hb (a := x) (b := 100) (n := x * 100) dX7_goOnFrom_17 rfl rfl rfl ?_
        refine lv_iload hx hb dX7_goOnFrom_18 (lv_at hl 4 rfl) ?_
        refine z_iadd hx hb (a := x * 100) (b := g) (n := (x * 100) + g) dX7_goOnFrom_20 rfl rfl rfl ?_
        refine z_iald C0 hP (k := rc) (i := (x * 100) + g) (v := (G rc ((x * 100) + g))) (krc (0, 11, 3100) (by decide)).1 (Nat.lt_of_lt_of_eq (show (x * 100) + g < 3100 by omega) (krc (0, 11, 3100) (by decide)).2.symm) rfl dX7_goOnFrom_21 (congrFun (hFc _ (by omega)) _) ?_
        refine lv_istore (lv' := [(5, .int (G rc ((x * 100) + g))), (0, .ref (E.1 70)), (1, .int (nI i)), (2, .int (nI x)), (3, .int (nI t)), (4, .int (nI g))]) hx hb dX7_goOnFrom_22 hl (by decide) rfl (fun ls hl => ?_)
        refine lv_iload hx hb dX7_goOnFrom_24 (lv_at hl 0 rfl) ?_
        refine lv_iload_n hx hb dX7_goOnFrom_26 rfl (lv_at hl 4 rfl) ?_
        refine lv_icmp_gt (tgt := 40) hx hb dX7_goOnFrom_27 (by decide) (fun c_27 => ?_) (fun c_27 => ?_)
        · skip
          refine lv_iinc (v := (nI (g + 1))) (lv' := [(4, .int (nI (g + 1))), (5, .int (G rc ((x * 100) + g))), (0, .ref (E.1 70)), (1, .int (nI i)), (2, .int (nI x)), (3, .int (nI t))]) hx hb dX7_goOnFrom_40 hl (k := 5) rfl (z_inc (by decide)) (by decide) rfl (fun ls hl => ?_)
          refine lv_goto (tgt := 3) hx hb dX7_goOnFrom_43 (by decide) ?_
          exact ih_3 (g + 1) Gc _ _ _ (by first | assumption | omega) (by exact fun k hk => hFc k (by omega)) (by exact tab_sk (Q := fun w => w < 4) hVs hVa hi hTc (tab_no hSr (show x < 31 by omega) (show g < 100 by omega) (Int32.not_le.mpr c_27) (fun s q => by have := rch_b hVs hVa (show i ≤ n by omega) q; omega) (by omega)) (fun y z w _ _ _ => by omega)) hP hS (lv_sub hl [2, 3, 4, 5, 0] rfl) (by omega)
        · skip
          have hne : (fun x g => G rc (x * 100 + g)) x g ≠ 1000000 := fun q => c_27 (by rw [show G rc (x * 100 + g) = 1000000 from q]; exact nI_lt (b := 1000000) (by omega) (by decide))
          obtain ⟨s, hs1, hs2, hs3, hs4, hs5⟩ := tab_in hVs hVa (show i ≤ n by omega) hSr (show x < 31 by omega) (show g < 100 by omega) hne
          have hs1 : G rc (x * 100 + g) = nI s := hs1
          rw [hs1] at hl
          refine lv_aload_n hx hb dX7_goOnFrom_30 rfl (lv_at hl 1 rfl) ?_
          refine lv_iload_n hx hb dX7_goOnFrom_31 rfl (lv_at hl 2 rfl) ?_
          refine lv_iload_n hx hb dX7_goOnFrom_32 rfl (lv_at hl 3 rfl) ?_
          refine lv_iload hx hb dX7_goOnFrom_33 (lv_at hl 5 rfl) ?_
          refine lv_iload hx hb dX7_goOnFrom_35 (lv_at hl 0 rfl) ?_
          refine z_Vv C0 hP hD hA hS (As := [.int (nI i), .int (nI x), .int (nI g), .int (nI s)]) (rest := []) (k := 70) (c_X7_goOnFromLegs l E _ r a n i x g s t (fun y z w => y < x ∨ (y = x ∧ z < g)) c d nx rc hcd hrc hnx ((congrFun (hFc _ (by omega)) _).trans (h6)) ((congrFun (hFc _ (by omega)) _).trans (h7)) hn10 hVs (zPn_x hpn (fun x _ => congrFun (hFc 70 (by omega)) x) (fun k hk => hFc k (by omega))) hVa hi hx0 (by omega) hs2 hs3 hTc) (cwV 4 hts (zgV zbw mlRX7_84 imX7_goOnFromLegs seX7_goOnFromLegs iniRX7 coX7_goOnFromLegs) rfl rfl rfl (by decide +kernel) ⟨Nat.le_of_ble_eq_true rfl, Nat.le_of_ble_eq_true rfl⟩) (zk_lt (rfl : zk 70 = 5) (by decide)) (zd_5 E (rfl : zk 70 = 5) _) rfl rfl rfl hl.1 rfl (Nat.le_of_ble_eq_true rfl) dX7_goOnFrom_37 ⟨Nat.zero_le _, Nat.zero_le _⟩ (fun G1 H locs hw1 hP hS => ?_)
          obtain ⟨hF1, hT1⟩ := hw1
          refine lv_iinc (v := (nI (g + 1))) (lv' := [(4, .int (nI (g + 1))), (5, .int (nI s)), (0, .ref (E.1 70)), (1, .int (nI i)), (2, .int (nI x)), (3, .int (nI t))]) hx hb dX7_goOnFrom_40 hl (k := 5) rfl (z_inc (by decide)) (by decide) rfl (fun ls hl => ?_)
          refine lv_goto (tgt := 3) hx hb dX7_goOnFrom_43 (by decide) ?_
          exact ih_3 (g + 1) G1 _ _ _ (by first | assumption | omega) (by exact fun k hk => (hF1 k (by omega)).trans (hFc k (by omega))) (by exact tab_P hVs hVa hn10 hi hT1 (fun y z w _ _ _ => by omega) (fun _ _ _ _ => rfl)) hP hS (lv_sub hl [2, 3, 4, 5, 0] rfl) (by omega)
  exact cut_3 (_ + 1) 0 G _ _ _ (by first | assumption | omega) (by exact fun k hk => rfl) (by exact tab_P hVs hVa hn10 hi hT (fun y z w _ _ _ => by omega) (fun _ _ _ _ => rfl)) hP hS (lv_sub hl [1, 2, 3, 4, 0] rfl) (Nat.lt_succ_self _)
theorem mlRX7_76 : Cond.methodLink RX7 76 yX7_takeNext ∈ zU := zU_m 594 (by decide +kernel) rfl
theorem coX7_takeNext : Cond.code yX7_takeNext cX7_takeNext 2 none ∈ zU := zU_m 597 (by decide +kernel) rfl
theorem imX7_takeNext : Cond.instanceMethod yX7_takeNext ∈ zU := zU_m 596 (by decide +kernel) rfl
theorem seX7_takeNext : Cond.selects RX7 yX7_takeNext yX7_takeNext ∈ zU := zU_m 16 (by decide +kernel) rfl
theorem mlRX7_79 : Cond.methodLink RX7 79 yX7_goOnFrom ∈ zU := zU_m 598 (by decide +kernel) rfl
theorem coX7_goOnFrom : Cond.code yX7_goOnFrom cX7_goOnFrom 6 none ∈ zU := zU_m 601 (by decide +kernel) rfl
theorem imX7_goOnFrom : Cond.instanceMethod yX7_goOnFrom ∈ zU := zU_m 600 (by decide +kernel) rfl
theorem seX7_goOnFrom : Cond.selects RX7 yX7_goOnFrom yX7_goOnFrom ∈ zU := zU_m 17 (by decide +kernel) rfl
set_option maxHeartbeats 4000000 in
set_option maxRecDepth 100000 in
theorem c_X7_fewestTries (l : Launch) (E : zE) (G : zG) (r : Nat → Int32) (a n t : Nat) (c d nx rc : Nat) (hcd : c + d = 1) (hrc : rc = 86 + c) (hnx : nx = 86 + d) (h6 : G 70 6 = nI c) (h7 : G 70 7 = nI d) (hn10 : n ≤ 10) (hVs : zVs r n) (hpn : zPn G r a n) (hVa : zVa r a) (ht : t < 1000) : zMi l yX7_fewestTries wsX7_fewestTries ({ frames := 4, cells := 0, slots := 0, locals := 98 } : Room) E G [.ref (E.1 70), .int (nI t)] (fun r1 G1 => lt_ok r n a t r1 ∧ (∀ k, (k < 70 ∨ (70 < k ∧ k < 86) ∨ 87 < k) → G1 k = G k) ∧ zPl G1) := by
  refine zOf (cc := cX7_fewestTries) (nL := 4) (ret := (some .int)) RX7 (by decide) rfl rfl (Nat.le_of_ble_eq_true rfl) ?_
  intro p_ e_ s_ m_ a_ b_ me_ c_ ls C0 hP hS hl
  have hx := C0.1
  have hb := C0.2.1
  have hts := C0.2.2.2.2.1
  have hD : zD E (zA E s_.heap.size) := C0.2.2.2.2.2.2.2.2
  have hA : ∀ q : Nat, s_.heap.size ≤ q → zA E s_.heap.size q := fun q h => Or.inr h
  have knx := zIs_x (x := nx) (show d ≤ 1 by omega) hnx
  have krc := zIs_x (x := rc) (show c ≤ 1 by omega) hrc
  have hqg := q_g_e hVa
  refine z_gen (fun Q_ hQ_ => ?_)
  have hl : lv_has ls 4 [(0, .ref (E.1 70)), (1, .int (nI t))] := hl
  refine lv_aload_n hx hb dX7_fewestTries_0 rfl (lv_at hl 0 rfl) ?_
  refine z_Vv C0 hP hD hA hS (As := []) (rest := []) (k := 70) (c_X7_emptyNext l E _ c d nx rc hcd hrc hnx (h6) (h7)) (cwV 0 hts (zgV zbw mlRX7_73 imX7_emptyNext seX7_emptyNext iniRX7 coX7_emptyNext) rfl rfl rfl (by decide +kernel) ⟨Nat.le_of_ble_eq_true rfl, Nat.le_of_ble_eq_true rfl⟩) (zk_lt (rfl : zk 70 = 5) (by decide)) (zd_5 E (rfl : zk 70 = 5) _) rfl rfl rfl hl.1 rfl (Nat.le_of_ble_eq_true rfl) dX7_fewestTries_1 ⟨Nat.zero_le _, Nat.zero_le _⟩ (fun G1 H locs hw1 hP hS => ?_)
  obtain ⟨hF1, hv1⟩ := hw1
  refine lv_aload_n hx hb dX7_fewestTries_4 rfl (lv_at hl 0 rfl) ?_
  refine z_get C0 hP (C := RX7) (T := TX7) (N := 8) (ci := 5) (index := 36) (k := 70) (ref := "WetSuitPedalsShoes$Planner") (zk_lt (rfl : zk 70 = 5) (by decide)) (zd_5 E (rfl : zk 70 = 5) _) rfl (zmi inU_7) 7 (by decide) (zm flRX7_36) rfl (v := .ref (E.1 nx)) (z_refx ((congrFun (hF1 _ (by omega)) _).trans (h7)) (by omega) (by omega)) dX7_fewestTries_5 ?_
  refine lv_aload_n hx hb dX7_fewestTries_8 rfl (lv_at hl 0 rfl) ?_
  refine z_get C0 hP (C := RX7) (T := TX7) (N := 8) (ci := 5) (index := 15) (k := 70) (ref := "WetSuitPedalsShoes$Planner") (zk_lt (rfl : zk 70 = 5) (by decide)) (zd_5 E (rfl : zk 70 = 5) _) rfl (zmi inU_7) 1 (by decide) (zm flRX7_15) rfl (v := .int (nI (q_g r a))) (congrArg (fun z => some (Value.int z)) ((congrFun (hF1 _ (by omega)) _).trans (hpn.2.1))) dX7_fewestTries_9 ?_
  refine lv_iconst (v := (0 : Int32)) hx hb dX7_fewestTries_12 (by decide) ?_
  refine z_iast C0 hP hD hS (k := nx) (i := q_g r a) (v := (0 : Int32)) (F := G1 nx) (rfl) (knx (0, 11, 3100) (by decide)).1 (Nat.lt_of_lt_of_eq (show q_g r a < 3100 by omega) (knx (0, 11, 3100) (by decide)).2.symm) rfl dX7_fewestTries_13 (fun H locs hP hS => ?_)
  refine lv_iconst (v := (0 : Int32)) hx hb dX7_fewestTries_14 (by decide) ?_
  refine lv_istore_n (lv' := [(2, .int (0 : Int32)), (0, .ref (E.1 70)), (1, .int (nI t))]) hx hb dX7_fewestTries_15 rfl hl (by decide) rfl (fun ls hl => ?_)
  have cut_16 : ∀ (fuel : Nat), ∀ (i c d nx rc : Nat) (Gc : zG) (H : Heap) (locs : List Loc) (ls : Array Slot), (i ≤ n) → (c + d = 1) → (rc = 86 + c) → (nx = 86 + d) → (Gc 70 6 = nI c) → (Gc 70 7 = nI d) → (∀ x, x < 6 → Gc 70 x = G 70 x) → (∀ k, (k < 70 ∨ (70 < k ∧ k < 86) ∨ 87 < k) → Gc k = G k) → (tab 1000000 t (rch r a i) (fun x g => Gc nx (x * 100 + g))) → zP E Gc H → va_S (zA E s_.heap.size) s_.heap H locs → lv_has ls 4 [(0, .ref (E.1 70)), (1, .int (nI t)), (2, .int (nI i))] → n - i < fuel → W p_ l e_ ({ frames := 4, cells := 0, slots := 0, locals := 98 } : Room) s_ m_ a_ b_ me_ c_ H locs 0 0 Q_ (F0 m_ 16 ls []) := by
    intro fuel
    induction fuel with
    | zero =>
      intro i c d nx rc  Gc  H locs ls hin hcd hrc hnx h6 h7 h70 hFc hT hP hS hl hfu
      exact absurd hfu (Nat.not_lt_zero _)
    | succ fuel ih_16 =>
      intro i c d nx rc  Gc  H locs ls hin hcd hrc hnx h6 h7 h70 hFc hT hP hS hl hfu_16
      have knx := zIs_x (x := nx) (show d ≤ 1 by omega) hnx
      have krc := zIs_x (x := rc) (show c ≤ 1 by omega) hrc
      refine lv_iload_n hx hb dX7_fewestTries_16 rfl (lv_at hl 2 rfl) ?_
      refine lv_aload_n hx hb dX7_fewestTries_17 rfl (lv_at hl 0 rfl) ?_
      refine z_get C0 hP (C := RX7) (T := TX7) (N := 8) (ci := 5) (index := 9) (k := 70) (ref := "WetSuitPedalsShoes$Planner") (zk_lt (rfl : zk 70 = 5) (by decide)) (zd_5 E (rfl : zk 70 = 5) _) rfl (zmi inU_7) 0 (by decide) (zm flRX7_9) rfl (v := .int (nI n)) (congrArg (fun z => some (Value.int z)) ((h70 0 (by decide)).trans hpn.1)) dX7_fewestTries_18 ?_
      refine z_N_ge hx hb (a := i) (b := n) (tgt := 56) dX7_fewestTries_21 rfl rfl (by omega) (by omega) (by decide) (fun c_21 => ?_) (fun c_21 => ?_)
      · skip
        have e9 : i = n := by omega
        rw [e9] at hT
        refine lv_iconst (v := (0 : Int32)) hx hb dX7_fewestTries_56 (by decide) ?_
        refine lv_istore_n (lv' := [(2, .int (0 : Int32)), (0, .ref (E.1 70)), (1, .int (nI t))]) hx hb dX7_fewestTries_57 rfl hl (by decide) rfl (fun ls hl => ?_)
        have cut_58 : ∀ (fuel : Nat), ∀ (p : Nat) (H : Heap) (locs : List Loc) (ls : Array Slot), (p ≤ 3100) → (∀ q, q < p → ¬ Gc nx q ≤ nI t) → zP E Gc H → va_S (zA E s_.heap.size) s_.heap H locs → lv_has ls 4 [(0, .ref (E.1 70)), (1, .int (nI t)), (2, .int (nI p))] → 3100 - p < fuel → W p_ l e_ ({ frames := 4, cells := 0, slots := 0, locals := 98 } : Room) s_ m_ a_ b_ me_ c_ H locs 0 0 Q_ (F0 m_ 58 ls []) := by
          intro fuel
          induction fuel with
          | zero =>
            intro p  H locs ls hp9 hq hP hS hl hfu
            exact absurd hfu (Nat.not_lt_zero _)
          | succ fuel ih_58 =>
            intro p  H locs ls hp9 hq hP hS hl hfu_58
            refine lv_iload_n hx hb dX7_fewestTries_58 rfl (lv_at hl 2 rfl) ?_
            refine lv_aload_n hx hb dX7_fewestTries_59 rfl (lv_at hl 0 rfl) ?_
            refine z_get C0 hP (C := RX7) (T := TX7) (N := 8) (ci := 5) (index := 36) (k := 70) (ref := "WetSuitPedalsShoes$Planner") (zk_lt (rfl : zk 70 = 5) (by decide)) (zd_5 E (rfl : zk 70 = 5) _) rfl (zmi inU_7) 7 (by decide) (zm flRX7_36) rfl (v := .ref (E.1 nx)) (z_refx (h7) (by omega) (by omega)) dX7_fewestTries_60 ?_
            refine z_alen C0 hP (k := nx) (v := (3100 : Int32)) (knx (0, 11, 3100) (by decide)).1 ((congrArg Int32.ofNat (knx (0, 11, 3100) (by decide)).2).trans rfl) dX7_fewestTries_63 ?_
            refine z_N_ge hx hb (a := p) (b := 3100) (tgt := 88) dX7_fewestTries_64 rfl rfl (by omega) (by omega) (by decide) (fun c_64 => ?_) (fun c_64 => ?_)
            · skip
              refine lv_bipush (v := (-9 : Int32)) hx hb dX7_fewestTries_88 (by decide) ?_
              subst hQ_
              exact z_iret C0 hP hS (v := (-9 : Int32)) (by exact ⟨lt_n hVs hVa hn10 hT ht (Nat.le_refl t) (fun y hy z hz => hq _ (by omega)), hFc, zPl_of hcd h6 h7⟩) dX7_fewestTries_90
            · skip
              refine lv_aload_n hx hb dX7_fewestTries_67 rfl (lv_at hl 0 rfl) ?_
              refine z_get C0 hP (C := RX7) (T := TX7) (N := 8) (ci := 5) (index := 36) (k := 70) (ref := "WetSuitPedalsShoes$Planner") (zk_lt (rfl : zk 70 = 5) (by decide)) (zd_5 E (rfl : zk 70 = 5) _) rfl (zmi inU_7) 7 (by decide) (zm flRX7_36) rfl (v := .ref (E.1 nx)) (z_refx (h7) (by omega) (by omega)) dX7_fewestTries_68 ?_
              refine lv_iload_n hx hb dX7_fewestTries_71 rfl (lv_at hl 2 rfl) ?_
              refine z_iald C0 hP (k := nx) (i := p) (v := (Gc nx p)) (knx (0, 11, 3100) (by decide)).1 (Nat.lt_of_lt_of_eq (show p < 3100 by omega) (knx (0, 11, 3100) (by decide)).2.symm) rfl dX7_fewestTries_72 (rfl) ?_
              refine lv_iload_n hx hb dX7_fewestTries_73 rfl (lv_at hl 1 rfl) ?_
              refine lv_icmp_gt (tgt := 82) hx hb dX7_fewestTries_74 (by decide) (fun c_74 => ?_) (fun c_74 => ?_)
              · skip
                refine lv_iinc (v := (nI (p + 1))) (lv' := [(2, .int (nI (p + 1))), (0, .ref (E.1 70)), (1, .int (nI t))]) hx hb dX7_fewestTries_82 hl (k := 2) rfl (z_inc (by decide)) (by decide) rfl (fun ls hl => ?_)
                refine lv_goto (tgt := 58) hx hb dX7_fewestTries_85 (by decide) ?_
                exact ih_58 (p + 1) _ _ _ (by first | assumption | omega) (by intro q h; rcases Nat.lt_or_ge q p with q9 | q9; (exact hq q q9); (rw [show q = p by omega]; exact Int32.not_le.mpr c_74)) hP hS (lv_sub hl [1, 2, 0] rfl) (by omega)
              · skip
                refine lv_iload_n hx hb dX7_fewestTries_77 rfl (lv_at hl 2 rfl) ?_
                refine lv_bipush (v := (100 : Int32)) hx hb dX7_fewestTries_78 (by decide) ?_
                refine z_idiv hx hb (a := p) (b := 100) dX7_fewestTries_80 rfl rfl (by omega) (by decide) (by decide) ?_
                subst hQ_
                exact z_iret C0 hP hS (v := (nI (p / 100))) (by exact ⟨lt_y (x := p / 100) (g := p % 100) hVs hVa hn10 hT (nI_lt (b := 1000000) (by omega) (by decide)) ht (Nat.le_refl t) (by omega) (by omega) (by show Gc nx (p / 100 * 100 + p % 100) ≤ nI t; rw [show p / 100 * 100 + p % 100 = p by omega]; exact Int32.not_lt.mp c_74) (fun y hy z hz => hq _ (by omega)), hFc, zPl_of hcd h6 h7⟩) dX7_fewestTries_81
        exact cut_58 (_ + 1) 0 _ _ _ (by first | assumption | omega) (by exact fun q h => absurd h (Nat.not_lt_zero q)) hP hS (lv_sub hl [1, 2, 0] rfl) (Nat.lt_succ_self _)
      · skip
        refine lv_aload_n hx hb dX7_fewestTries_24 rfl (lv_at hl 0 rfl) ?_
        refine z_Vv C0 hP hD hA hS (As := []) (rest := []) (k := 70) (c_X7_takeNext l E _ c d nx rc hcd hrc hnx (h6) (h7)) (cwV 0 hts (zgV zbw mlRX7_76 imX7_takeNext seX7_takeNext iniRX7 coX7_takeNext) rfl rfl rfl (by decide +kernel) ⟨Nat.le_of_ble_eq_true rfl, Nat.le_of_ble_eq_true rfl⟩) (zk_lt (rfl : zk 70 = 5) (by decide)) (zd_5 E (rfl : zk 70 = 5) _) rfl rfl rfl hl.1 rfl (Nat.le_of_ble_eq_true rfl) dX7_fewestTries_25 ⟨Nat.zero_le _, Nat.zero_le _⟩ (fun G2 H locs hw2 hP hS => ?_)
        obtain ⟨h702, hF2, hv2⟩ := hw2
        refine lv_iconst (v := (0 : Int32)) hx hb dX7_fewestTries_28 (by decide) ?_
        refine lv_istore_n (lv' := [(3, .int (0 : Int32)), (0, .ref (E.1 70)), (1, .int (nI t)), (2, .int (nI i))]) hx hb dX7_fewestTries_29 rfl hl (by decide) rfl (fun ls hl => ?_)
        have cut_30 : ∀ (fuel : Nat), ∀ (x : Nat) (Gd : zG) (H : Heap) (locs : List Loc) (ls : Array Slot), (x ≤ 3 * i + 1) → (Gd 70 6 = nI d) → (Gd 70 7 = nI c) → (∀ x, x < 6 → Gd 70 x = G 70 x) → (∀ k, (k < 70 ∨ (70 < k ∧ k < 86) ∨ 87 < k) → Gd k = G k) → (tab 1000000 t (rch r a i) (fun x g => Gd nx (x * 100 + g))) → (tab 1000000 t (rcp r a i (fun y z w => y < x)) (fun x g => Gd rc (x * 100 + g))) → zP E Gd H → va_S (zA E s_.heap.size) s_.heap H locs → lv_has ls 4 [(0, .ref (E.1 70)), (1, .int (nI t)), (2, .int (nI i)), (3, .int (nI x))] → 3 * i + 1 - x < fuel → W p_ l e_ ({ frames := 4, cells := 0, slots := 0, locals := 98 } : Room) s_ m_ a_ b_ me_ c_ H locs 0 0 Q_ (F0 m_ 30 ls []) := by
          intro fuel
          induction fuel with
          | zero =>
            intro x  Gd  H locs ls hx9 k6 k7 k70 hFd hSr hTx hP hS hl hfu
            exact absurd hfu (Nat.not_lt_zero _)
          | succ fuel ih_30 =>
            intro x  Gd  H locs ls hx9 k6 k7 k70 hFd hSr hTx hP hS hl hfu_30
            refine lv_iload_n hx hb dX7_fewestTries_30 rfl (lv_at hl 3 rfl) ?_
            refine lv_iload_n hx hb dX7_fewestTries_31 rfl (lv_at hl 2 rfl) ?_
            refine lv_iconst (v := (3 : Int32)) hx hb dX7_fewestTries_32 (by decide) ?_
            refine z_imul hx hb (a := i) (b := 3) (n := i * 3) dX7_fewestTries_33 rfl rfl rfl ?_
            refine z_N_gt hx hb (a := x) (b := i * 3) (tgt := 50) dX7_fewestTries_34 rfl rfl (by omega) (by omega) (by decide) (fun c_34 => ?_) (fun c_34 => ?_)
            · skip
              refine lv_iinc (v := (nI (i + 1))) (lv' := [(2, .int (nI (i + 1))), (0, .ref (E.1 70)), (1, .int (nI t)), (3, .int (nI x))]) hx hb dX7_fewestTries_50 hl (k := 2) rfl (z_inc (by decide)) (by decide) rfl (fun ls hl => ?_)
              refine lv_goto (tgt := 16) hx hb dX7_fewestTries_53 (by decide) ?_
              exact ih_16 (i + 1) d c rc nx Gd _ _ _ (by first | assumption | omega) (by first | assumption | omega) (by first | assumption | omega) (by first | assumption | omega) (by exact k6) (by exact k7) (by exact k70) (by exact hFd) (by exact tab_all hVs hVa hn10 (by omega) hTx (fun y z w hy _ _ => by omega)) hP hS (lv_sub hl [1, 2, 0] rfl) (by omega)
            · skip
              refine lv_aload_n hx hb dX7_fewestTries_37 rfl (lv_at hl 0 rfl) ?_
              refine lv_iload_n hx hb dX7_fewestTries_38 rfl (lv_at hl 2 rfl) ?_
              refine lv_iload_n hx hb dX7_fewestTries_39 rfl (lv_at hl 3 rfl) ?_
              refine lv_iload_n hx hb dX7_fewestTries_40 rfl (lv_at hl 1 rfl) ?_
              refine z_Vv C0 hP hD hA hS (As := [.int (nI i), .int (nI x), .int (nI t)]) (rest := []) (k := 70) (c_X7_goOnFrom l E _ r a n i x t d c rc nx (by omega) hnx hrc (k6) (k7) hn10 hVs (zPn_x hpn k70 (fun k hk => hFd k (by omega))) hVa (by omega) (by omega) ht hSr hTx) (cwV 3 hts (zgV zbw mlRX7_79 imX7_goOnFrom seX7_goOnFrom iniRX7 coX7_goOnFrom) rfl rfl rfl (by decide +kernel) ⟨Nat.le_of_ble_eq_true rfl, Nat.le_of_ble_eq_true rfl⟩) (zk_lt (rfl : zk 70 = 5) (by decide)) (zd_5 E (rfl : zk 70 = 5) _) rfl rfl rfl hl.1 rfl (Nat.le_of_ble_eq_true rfl) dX7_fewestTries_41 ⟨Nat.zero_le _, Nat.zero_le _⟩ (fun G3 H locs hw3 hP hS => ?_)
              obtain ⟨hF3, hT3⟩ := hw3
              refine lv_iinc (v := (nI (x + 1))) (lv' := [(3, .int (nI (x + 1))), (0, .ref (E.1 70)), (1, .int (nI t)), (2, .int (nI i))]) hx hb dX7_fewestTries_44 hl (k := 3) rfl (z_inc (by decide)) (by decide) rfl (fun ls hl => ?_)
              refine lv_goto (tgt := 30) hx hb dX7_fewestTries_47 (by decide) ?_
              exact ih_30 (x + 1) G3 _ _ _ (by first | assumption | omega) (by exact (congrFun (hF3 _ (by omega)) 6).trans k6) (by exact (congrFun (hF3 _ (by omega)) 7).trans k7) (by exact fun x hx => (congrFun (hF3 _ (by omega)) x).trans (k70 x hx)) (by exact fun k hk => (hF3 k (by omega)).trans (hFd k (by omega))) (by exact tab_ext hSr (fun _ _ _ _ _ => Iff.rfl) (fun x g _ _ => congrFun (hF3 nx (by omega)) _)) (by exact hT3) hP hS (lv_sub hl [1, 2, 3, 0] rfl) (by omega)
        exact cut_30 (_ + 1) 0 G2 _ _ _ (by first | assumption | omega) (by exact (congrFun h702 6).trans ((pk_un (by decide)).trans pk_us)) (by exact (congrFun h702 7).trans pk_us) (by exact fun x hx => (congrFun h702 x).trans ((pk_un (by omega)).trans ((pk_un (by omega)).trans (h70 x hx)))) (by exact fun k hk => (hF2 k (by omega)).trans (hFc k (by omega))) (by exact tab_ext hT (fun _ _ _ _ _ => Iff.rfl) (fun x g _ _ => congrFun (hF2 nx (by omega)) _)) (by exact tab_0 (fun y z w q => absurd q (Nat.not_lt_zero y)) (fun x g hx hg => hv2 _ (by omega))) hP hS (lv_sub hl [1, 2, 3, 0] rfl) (Nat.lt_succ_self _)
  exact cut_16 (_ + 1) 0 c d nx rc (g1 G1 nx (upd (G1 nx) (q_g r a) (0 : Int32))) _ _ _ (by first | assumption | omega) (by first | assumption | omega) (by first | assumption | omega) (by first | assumption | omega) (by exact (congrFun ((g1_n (by omega)).trans (hF1 _ (by omega))) _).trans (h6)) (by exact (congrFun ((g1_n (by omega)).trans (hF1 _ (by omega))) _).trans (h7)) (by exact fun x hx => congrFun ((g1_n (by omega)).trans (hF1 _ (by omega))) x) (by exact fun k hk => (g1_n (by omega)).trans (hF1 k (by omega))) (by exact tab_st ((congrFun (g1_s _ _ _) _).trans (by rw [show 0 * 100 + q_g r a = q_g r a by omega]; exact pk_us)) (fun x g hx hg q => (congrFun (g1_s _ _ _) _).trans ((pk_un (by omega)).trans (hv1 _ (by omega))))) hP hS (lv_sub hl [1, 2, 0] rfl) (Nat.lt_succ_self _)
theorem mlRX11_194 : Cond.methodLink RX11 194 yX7_fewestTries ∈ zU := zU_m 585 (by decide +kernel) rfl
theorem coX7_fewestTries : Cond.code yX7_fewestTries cX7_fewestTries 4 (some .int) ∈ zU := zU_m 588 (by decide +kernel) rfl
theorem imX7_fewestTries : Cond.instanceMethod yX7_fewestTries ∈ zU := zU_m 586 (by decide +kernel) rfl
theorem seX7_fewestTries : Cond.selects RX7 yX7_fewestTries yX7_fewestTries ∈ zU := zU_m 587 (by decide +kernel) rfl
set_option maxHeartbeats 4000000 in
set_option maxRecDepth 100000 in
theorem c_X11_leastTries (l : Launch) (E : zE) (G : zG) (r : Nat → Int32) (n na : Nat) (athlete t : Int32) (hR : zFA G 1 r n na) (hn10 : n ≤ 10) (hna : na ≤ 5) (hp : zPl G) (hkd : zKd r n) (hV : zVr r n na) : zMi l yX11_leastTries wsX11_leastTries ({ frames := 5, cells := 0, slots := 0, locals := 121 } : Room) E G [.ref (E.1 0), .int athlete, .int t] (fun r1 G1 => zQc (A_least r n na athlete t) G r1 G1) := by
  refine zOf (cc := cX11_leastTries) (nL := 3) (ret := (some .int)) RX11 (by decide) rfl rfl (Nat.le_of_ble_eq_true rfl) ?_
  intro p_ e_ s_ m_ a_ b_ me_ c_ ls C0 hP hS hl
  have hx := C0.1
  have hb := C0.2.1
  have hts := C0.2.2.2.2.1
  have hD : zD E (zA E s_.heap.size) := C0.2.2.2.2.2.2.2.2
  have hA : ∀ q : Nat, s_.heap.size ≤ q → zA E s_.heap.size q := fun q h => Or.inr h
  obtain ⟨c, d, hcd, h6, h7⟩ := zPl_cd hp
  refine z_gen (fun Q_ hQ_ => ?_)
  have hl : lv_has ls 3 [(0, .ref (E.1 0)), (1, .int athlete), (2, .int t)] := hl
  refine lv_aload_n hx hb dX11_leastTries_0 rfl (lv_at hl 0 rfl) ?_
  refine z_get C0 hP (C := RX11) (T := TX11) (N := 11) (ci := 9) (index := 10) (k := 0) (ref := "WetSuitPedalsShoes") (zk_lt (rfl : zk 0 = 9) (by decide)) (zd_9 E (rfl : zk 0 = 9) _) rfl (zmi inU_11) 0 (by decide) (zm flRX11_10) rfl (v := .ref (E.1 1)) (rfl) dX11_leastTries_1 ?_
  refine lv_iload_n hx hb dX11_leastTries_4 rfl (lv_at hl 1 rfl) ?_
  refine z_Vi C0 hP hD hA hS (As := [.int athlete]) (rest := []) (k := 1) (c_X3_has l E _ 1 na athlete z_lit_Fie_1 (hR.2.1) (by omega)) (cwV 1 hts (zgV zbw mlRX11_117 imX3_has seX3_has iniRX3 coX3_has) rfl rfl rfl (by decide +kernel) ⟨Nat.le_of_ble_eq_true rfl, Nat.le_of_ble_eq_true rfl⟩) (zk_lt (rfl : zk 1 = 3) (by decide)) (zd_3 E (rfl : zk 1 = 3) _) rfl rfl rfl hl.1 rfl (Nat.le_of_ble_eq_true rfl) dX11_leastTries_5 ⟨Nat.zero_le _, Nat.zero_le _⟩ (fun r1 G1 H locs hw1 hP hS => ?_)
  rcases hw1 with ⟨rfl, rfl, ia, hia, rfl⟩ | ⟨rfl, rfl, hno1⟩
  · skip
    have hz_ia := zin_t hia (by omega)
    have hy_ia : zix (nI ia) = ia := zix_n (by omega)
    refine lv_if_ne (tgt := 17) hx hb dX11_leastTries_8 (by decide) (fun _ => ?_) (fun h_ => absurd h_ (by decide))
    refine lv_iload_n hx hb dX11_leastTries_17 rfl (lv_at hl 2 rfl) ?_
    refine lv_if_ge (tgt := 28) hx hb dX11_leastTries_18 (by decide) (fun c_18 => ?_) (fun c_18 => ?_)
    · skip
      have d_18 := Int32.not_lt.mpr c_18
      refine lv_iload_n hx hb dX11_leastTries_28 rfl (lv_at hl 2 rfl) ?_
      refine lv_sipush (v := (999 : Int32)) hx hb dX11_leastTries_29 (by decide) ?_
      refine lv_icmp_le (tgt := 42) hx hb dX11_leastTries_32 (by decide) (fun c_32 => ?_) (fun c_32 => ?_)
      · skip
        have d_32 := Int32.not_lt.mpr c_32
        obtain ⟨tn, htn, rfl⟩ := z_rng (m := 1000) d_18 c_32 (by decide) (by decide)
        have hy_tn : zix (nI tn) = tn := zix_n (by omega)
        refine lv_aload_n hx hb dX11_leastTries_42 rfl (lv_at hl 0 rfl) ?_
        refine z_get C0 hP (C := RX11) (T := TX11) (N := 11) (ci := 9) (index := 54) (k := 0) (ref := "WetSuitPedalsShoes") (zk_lt (rfl : zk 0 = 9) (by decide)) (zd_9 E (rfl : zk 0 = 9) _) rfl (zmi inU_11) 8 (by decide) (zm flRX11_54) rfl (v := .ref (E.1 70)) (rfl) dX11_leastTries_43 ?_
        refine lv_aload_n hx hb dX11_leastTries_46 rfl (lv_at hl 0 rfl) ?_
        refine z_get C0 hP (C := RX11) (T := TX11) (N := 11) (ci := 9) (index := 10) (k := 0) (ref := "WetSuitPedalsShoes") (zk_lt (rfl : zk 0 = 9) (by decide)) (zd_9 E (rfl : zk 0 = 9) _) rfl (zmi inU_11) 0 (by decide) (zm flRX11_10) rfl (v := .ref (E.1 1)) (rfl) dX11_leastTries_47 ?_
        refine z_get C0 hP (C := RX3) (T := TX3) (N := 3) (ci := 3) (index := 93) (k := 1) (ref := "WetSuitPedalsShoes$Field") (zk_lt (rfl : zk 1 = 3) (by decide)) (zd_3 E (rfl : zk 1 = 3) _) rfl (zmi inU_3) 0 (by decide) (zm flRX11_93) rfl (v := .ref (E.1 2)) (rfl) dX11_leastTries_50 ?_
        refine lv_aload_n hx hb dX11_leastTries_53 rfl (lv_at hl 0 rfl) ?_
        refine z_get C0 hP (C := RX11) (T := TX11) (N := 11) (ci := 9) (index := 10) (k := 0) (ref := "WetSuitPedalsShoes") (zk_lt (rfl : zk 0 = 9) (by decide)) (zd_9 E (rfl : zk 0 = 9) _) rfl (zmi inU_11) 0 (by decide) (zm flRX11_10) rfl (v := .ref (E.1 1)) (rfl) dX11_leastTries_54 ?_
        refine z_get C0 hP (C := RX3) (T := TX3) (N := 3) (ci := 3) (index := 118) (k := 1) (ref := "WetSuitPedalsShoes$Field") (zk_lt (rfl : zk 1 = 3) (by decide)) (zd_3 E (rfl : zk 1 = 3) _) rfl (zmi inU_3) 1 (by decide) (zm flRX11_118) rfl (v := .ref (E.1 6)) (rfl) dX11_leastTries_57 ?_
        refine lv_iload_n hx hb dX11_leastTries_60 rfl (lv_at hl 1 rfl) ?_
        refine z_aald C0 hP (k := 6) (i := ia) (rfl : zk 6 = 12) (by omega) rfl dX11_leastTries_61 (fun at_2 hat_2 => ?_)
        have kat_2 : zIs at_2 tAth := hat_2 ▸ zIs_ath z_lit_Fie_1 (by omega)
        refine z_Vv C0 hP hD hA hS (As := [.ref (E.1 2), .ref (E.1 at_2)]) (rest := []) (k := 70) (c_X7_look l E _ at_2 n kat_2 (by omega) (hR.1) hn10) (cwV 2 hts (zgV zbw mlRX11_178 imX7_look seX7_look iniRX7 coX7_look) rfl rfl rfl (by decide +kernel) ⟨Nat.le_of_ble_eq_true rfl, Nat.le_of_ble_eq_true rfl⟩) (zk_lt (rfl : zk 70 = 5) (by decide)) (zd_5 E (rfl : zk 70 = 5) _) rfl rfl rfl hl.1 rfl (Nat.le_of_ble_eq_true rfl) dX11_leastTries_62 ⟨Nat.zero_le _, Nat.zero_le _⟩ (fun G3 H locs hw3 hP hS => ?_)
        obtain ⟨hF3, hm3, h13, h63, h73, hrow3⟩ := hw3
        have hpn3 := zPn_look hR hat_2 hia hn10 hV hm3 h13 hrow3
        refine lv_aload_n hx hb dX11_leastTries_65 rfl (lv_at hl 0 rfl) ?_
        refine z_get C0 hP (C := RX11) (T := TX11) (N := 11) (ci := 9) (index := 54) (k := 0) (ref := "WetSuitPedalsShoes") (zk_lt (rfl : zk 0 = 9) (by decide)) (zd_9 E (rfl : zk 0 = 9) _) rfl (zmi inU_11) 8 (by decide) (zm flRX11_54) rfl (v := .ref (E.1 70)) (rfl) dX11_leastTries_66 ?_
        refine lv_iload_n hx hb dX11_leastTries_69 rfl (lv_at hl 2 rfl) ?_
        refine z_Vi C0 hP hD hA hS (As := [.int (nI tn)]) (rest := []) (k := 70) (c_X7_fewestTries l E _ r ia n tn c d (86 + d) (86 + c) hcd rfl rfl (h63.trans h6) (h73.trans h7) hn10 hV.1 hpn3 (hV.2 ia hia) (by omega)) (cwV 1 hts (zgV zbw mlRX11_194 imX7_fewestTries seX7_fewestTries iniRX7 coX7_fewestTries) rfl rfl rfl (by decide +kernel) ⟨Nat.le_of_ble_eq_true rfl, Nat.le_of_ble_eq_true rfl⟩) (zk_lt (rfl : zk 70 = 5) (by decide)) (zd_5 E (rfl : zk 70 = 5) _) rfl rfl rfl hl.1 rfl (Nat.le_of_ble_eq_true rfl) dX11_leastTries_70 ⟨Nat.zero_le _, Nat.zero_le _⟩ (fun r4 G4 H locs hw4 hP hS => ?_)
        obtain ⟨hok4, hF4, hpl4⟩ := hw4
        have hr94 := q_lt_e hok4
        subst hr94
        subst hQ_
        exact z_iret C0 hP hS (v := (q_lt r n ia tn)) (by exact zQc_of (k := 0) (by simp [A_least, hz_ia, hy_ia, d_18, d_32, hy_tn]) (fun k hk => (hF4 k (by omega)).trans (hF3 k (by omega))) ((hF4 _ (by omega)).trans (hF3 _ (by decide))) (hpl4)) dX11_leastTries_73
      · skip
        have d_32 := Int32.not_le.mp c_32
        refine lv_aload_n hx hb dX11_leastTries_35 rfl (lv_at hl 0 rfl) ?_
        refine lv_bipush (v := (-6 : Int32)) hx hb dX11_leastTries_36 (by decide) ?_
        refine z_Vi C0 hP hD hA hS (As := [.int (-6 : Int32)]) (rest := []) (k := 0) (c_X11_refuse l E _ (-6 : Int32) 6 (by decide) (by decide) (by decide)) (cwV 1 hts (zgV zbw mlRX11_72 imX11_refuse seX11_refuse iniRX11 coX11_refuse) rfl rfl rfl (by decide +kernel) ⟨Nat.le_of_ble_eq_true rfl, Nat.le_of_ble_eq_true rfl⟩) (zk_lt (rfl : zk 0 = 9) (by decide)) (zd_9 E (rfl : zk 0 = 9) _) rfl rfl rfl hl.1 rfl (Nat.le_of_ble_eq_true rfl) dX11_leastTries_38 ⟨Nat.zero_le _, Nat.zero_le _⟩ (fun r5 G5 H locs hw5 hP hS => ?_)
        obtain ⟨rfl, rfl⟩ := hw5
        subst hQ_
        exact z_iret C0 hP hS (v := (-6 : Int32)) (by exact zQc_of (k := 6) (by simp [A_least, hz_ia, hy_ia, d_18, d_32]) (fun k hk => g1_n (by omega)) (g1_s _ _ _) (z_plk (g1_n (by decide)) hp)) dX11_leastTries_41
    · skip
      have d_18 := Int32.not_le.mp c_18
      refine lv_aload_n hx hb dX11_leastTries_21 rfl (lv_at hl 0 rfl) ?_
      refine lv_bipush (v := (-4 : Int32)) hx hb dX11_leastTries_22 (by decide) ?_
      refine z_Vi C0 hP hD hA hS (As := [.int (-4 : Int32)]) (rest := []) (k := 0) (c_X11_refuse l E _ (-4 : Int32) 4 (by decide) (by decide) (by decide)) (cwV 1 hts (zgV zbw mlRX11_72 imX11_refuse seX11_refuse iniRX11 coX11_refuse) rfl rfl rfl (by decide +kernel) ⟨Nat.le_of_ble_eq_true rfl, Nat.le_of_ble_eq_true rfl⟩) (zk_lt (rfl : zk 0 = 9) (by decide)) (zd_9 E (rfl : zk 0 = 9) _) rfl rfl rfl hl.1 rfl (Nat.le_of_ble_eq_true rfl) dX11_leastTries_24 ⟨Nat.zero_le _, Nat.zero_le _⟩ (fun r6 G6 H locs hw6 hP hS => ?_)
      obtain ⟨rfl, rfl⟩ := hw6
      subst hQ_
      exact z_iret C0 hP hS (v := (-4 : Int32)) (by exact zQc_of (k := 4) (by simp [A_least, hz_ia, hy_ia, d_18]) (fun k hk => g1_n (by omega)) (g1_s _ _ _) (z_plk (g1_n (by decide)) hp)) dX11_leastTries_27
  · skip
    have hz_ia := zin_f (by omega) hno1
    refine lv_if_ne (tgt := 17) hx hb dX11_leastTries_8 (by decide) (fun h_ => absurd (by decide) h_) (fun _ => ?_)
    refine lv_aload_n hx hb dX11_leastTries_11 rfl (lv_at hl 0 rfl) ?_
    refine lv_iconst (v := (-1 : Int32)) hx hb dX11_leastTries_12 (by decide) ?_
    refine z_Vi C0 hP hD hA hS (As := [.int (-1 : Int32)]) (rest := []) (k := 0) (c_X11_refuse l E _ (-1 : Int32) 1 (by decide) (by decide) (by decide)) (cwV 1 hts (zgV zbw mlRX11_72 imX11_refuse seX11_refuse iniRX11 coX11_refuse) rfl rfl rfl (by decide +kernel) ⟨Nat.le_of_ble_eq_true rfl, Nat.le_of_ble_eq_true rfl⟩) (zk_lt (rfl : zk 0 = 9) (by decide)) (zd_9 E (rfl : zk 0 = 9) _) rfl rfl rfl hl.1 rfl (Nat.le_of_ble_eq_true rfl) dX11_leastTries_13 ⟨Nat.zero_le _, Nat.zero_le _⟩ (fun r7 G7 H locs hw7 hP hS => ?_)
    obtain ⟨rfl, rfl⟩ := hw7
    subst hQ_
    exact z_iret C0 hP hS (v := (-1 : Int32)) (by exact zQc_of (k := 1) (by simp [A_least, hz_ia]) (fun k hk => g1_n (by omega)) (g1_s _ _ _) (z_plk (g1_n (by decide)) hp)) dX11_leastTries_16
