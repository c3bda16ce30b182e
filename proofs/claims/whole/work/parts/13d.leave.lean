/-! laid by wip/whole/vcg.py -/
set_option maxHeartbeats 4000000 in
set_option maxRecDepth 100000 in
theorem c_X1_remove (l : Launch) (E : zE) (G : zG) (c n i : Nat) (hc : zIs c tCou) (hn : G c 0 = nI n) (hn10 : n ≤ 10) (hi : i < n) : zMv l yX1_remove wsX1_remove ({ frames := 1, cells := 0, slots := 0, locals := 21 } : Room) E G [.ref (E.1 c), .int (nI i)] (fun G1 => (∀ k, (k < c ∨ c + 3 < k) → G1 k = G k) ∧ G1 c 0 = nI (n - 1) ∧ ∀ j, j < 10 → G1 (c + 1) j = s_shf (G (c + 1)) i (n - 1) j ∧ G1 (c + 2) j = s_shf (G (c + 2)) i (n - 1) j ∧ G1 (c + 3) j = s_shf (G (c + 3)) i (n - 1) j) := by
  refine zOf (cc := cX1_remove) (nL := 3) (ret := none) RX1 (by decide) rfl rfl (Nat.le_of_ble_eq_true rfl) ?_
  intro p_ e_ s_ m_ a_ b_ me_ c_ ls C0 hP hS hl
  have hx := C0.1
  have hb := C0.2.1
  have hts := C0.2.2.2.2.1
  have hD : zD E (zA E s_.heap.size) := C0.2.2.2.2.2.2.2.2
  have hA : ∀ q : Nat, s_.heap.size ≤ q → zA E s_.heap.size q := fun q h => Or.inr h
  refine z_gen (fun Q_ hQ_ => ?_)
  have hl : lv_has ls 3 [(0, .ref (E.1 c)), (1, .int (nI i))] := hl
  refine lv_aload_n hx hb dX1_remove_0 rfl (lv_at hl 0 rfl) ?_
  refine lv_iload_n hx hb dX1_remove_1 rfl (lv_at hl 1 rfl) ?_
  refine z_Vi C0 hP hD hA hS (As := [.int (nI i)]) (rest := []) (k := c) (c_X1_hasN l E _ c n i hc (hn) (by omega) (by omega)) (cwV 1 hts (zgV zbw mlRX1_31 imX1_has seX1_has iniRX1 coX1_has) rfl rfl rfl (by decide +kernel) ⟨Nat.le_of_ble_eq_true rfl, Nat.le_of_ble_eq_true rfl⟩) (zk_lt (hc (0, 1, 4) (by decide)).1 (by decide)) (zd_1 E (hc (0, 1, 4) (by decide)).1 _) rfl rfl rfl hl.1 rfl (Nat.le_of_ble_eq_true rfl) dX1_remove_2 ⟨Nat.zero_le _, Nat.zero_le _⟩ (fun r1 G1 H locs hw1 hP hS => ?_)
  obtain ⟨rfl, rfl⟩ := hw1
  refine lv_if_ne (tgt := 9) hx hb dX1_remove_5 (by decide) (fun _ => ?_) (fun h_ => absurd h_ (by decide))
  refine lv_iload_n hx hb dX1_remove_9 rfl (lv_at hl 1 rfl) ?_
  refine lv_istore_n (lv' := [(2, .int (nI i)), (0, .ref (E.1 c)), (1, .int (nI i))]) hx hb dX1_remove_10 rfl hl (by decide) rfl (fun ls hl => ?_)
  have cut_11 : ∀ (fuel : Nat), ∀ (k : Nat) (Gc : zG) (H : Heap) (locs : List Loc) (ls : Array Slot), (i ≤ k ∧ k + 1 ≤ n) → (∀ k, (k < c + 1 ∨ c + 3 < k) → Gc k = G k) → (∀ j, j < 10 → Gc (c + 1) j = s_shf (G (c + 1)) i (k) j ∧ Gc (c + 2) j = s_shf (G (c + 2)) i (k) j ∧ Gc (c + 3) j = s_shf (G (c + 3)) i (k) j) → zP E Gc H → va_S (zA E s_.heap.size) s_.heap H locs → lv_has ls 3 [(0, .ref (E.1 c)), (1, .int (nI i)), (2, .int (nI k))] → n - k < fuel → W p_ l e_ ({ frames := 1, cells := 0, slots := 0, locals := 21 } : Room) s_ m_ a_ b_ me_ c_ H locs 0 0 Q_ (F0 m_ 11 ls []) := by
    intro fuel
    induction fuel with
    | zero =>
      intro k  Gc  H locs ls hik hFc hrow hP hS hl hfu
      exact absurd hfu (Nat.not_lt_zero _)
    | succ fuel ih_11 =>
      intro k  Gc  H locs ls hik hFc hrow hP hS hl hfu_11
      refine lv_iload_n hx hb dX1_remove_11 rfl (lv_at hl 2 rfl) ?_
      refine lv_iconst (v := (1 : Int32)) hx hb dX1_remove_12 (by decide) ?_
      refine z_iadd hx hb (a := k) (b := 1) (n := k + 1) dX1_remove_13 rfl rfl rfl ?_
      refine lv_aload_n hx hb dX1_remove_14 rfl (lv_at hl 0 rfl) ?_
      refine z_get C0 hP (C := RX1) (T := TX1) (N := 4) (ci := 1) (index := 9) (k := c) (ref := "WetSuitPedalsShoes$Course") (zk_lt (hc (0, 1, 4) (by decide)).1 (by decide)) (zd_1 E (hc (0, 1, 4) (by decide)).1 _) rfl (zmi inU_1) 0 (by decide) (zm flRX1_9) rfl (v := .int (nI n)) (congrArg (fun z => some (Value.int z)) ((congrFun (hFc _ (by omega)) _).trans (hn))) dX1_remove_15 ?_
      refine z_N_ge hx hb (a := k + 1) (b := n) (tgt := 69) dX1_remove_18 rfl rfl (by omega) (by omega) (by decide) (fun c_18 => ?_) (fun c_18 => ?_)
      · skip
        refine lv_aload_n hx hb dX1_remove_69 rfl (lv_at hl 0 rfl) ?_
        refine lv_dup hx hb dX1_remove_70 rfl ?_
        refine z_get C0 hP (C := RX1) (T := TX1) (N := 4) (ci := 1) (index := 9) (k := c) (ref := "WetSuitPedalsShoes$Course") (zk_lt (hc (0, 1, 4) (by decide)).1 (by decide)) (zd_1 E (hc (0, 1, 4) (by decide)).1 _) rfl (zmi inU_1) 0 (by decide) (zm flRX1_9) rfl (v := .int (nI n)) (congrArg (fun z => some (Value.int z)) ((congrFun (hFc _ (by omega)) _).trans (hn))) dX1_remove_71 ?_
        refine lv_iconst (v := (1 : Int32)) hx hb dX1_remove_74 (by decide) ?_
        refine z_isub hx hb (a := n) (b := 1) (n := n - 1) dX1_remove_75 rfl rfl (by omega) (by omega) ?_
        refine z_put C0 hP hD hS (C := RX1) (T := TX1) (N := 4) (ci := 1) (index := 9) (k := c) (ref := "WetSuitPedalsShoes$Course") (F := G c) (ty := .int) (hFc _ (by omega)) tyX1 tyX1_ok nmX1 (zk_lt (hc (0, 1, 4) (by decide)).1 (by decide)) (zd_1 E (hc (0, 1, 4) (by decide)).1 _) rfl (zmi inU_1) 0 (by decide) (zm flRX1_9) rfl rfl (by decide +kernel) (by rfl) rfl (by show 0 < 4; decide) (upd (G c) 0 (nI (n - 1))) ((zd_1 E (hc (0, 1, 4) (by decide)).1 _).trans (rfl)) dX1_remove_76 (fun H locs hP hS => ?_)
        subst hQ_
        exact z_vret C0 hP hS (by have e9 : k = n - 1 := (by omega); have h9 := hrow; rw [e9] at h9; exact ⟨(fun k hk => (g1_n (by omega)).trans (hFc k (by omega))), (congrFun (g1_s _ _ _) _).trans (pk_us), fun j hj => ⟨(congrFun (g1_n (by omega)) j).trans (h9 j hj).1, (congrFun (g1_n (by omega)) j).trans (h9 j hj).2.1, (congrFun (g1_n (by omega)) j).trans (h9 j hj).2.2⟩⟩) dX1_remove_79
      · skip
        refine lv_aload_n hx hb dX1_remove_21 rfl (lv_at hl 0 rfl) ?_
        refine z_get C0 hP (C := RX1) (T := TX1) (N := 4) (ci := 1) (index := 15) (k := c) (ref := "WetSuitPedalsShoes$Course") (zk_lt (hc (0, 1, 4) (by decide)).1 (by decide)) (zd_1 E (hc (0, 1, 4) (by decide)).1 _) rfl (zmi inU_1) 1 (by decide) (zm flRX1_15) rfl (v := .ref (E.1 (c + 1))) (rfl) dX1_remove_22 ?_
        refine lv_iload_n hx hb dX1_remove_25 rfl (lv_at hl 2 rfl) ?_
        refine lv_aload_n hx hb dX1_remove_26 rfl (lv_at hl 0 rfl) ?_
        refine z_get C0 hP (C := RX1) (T := TX1) (N := 4) (ci := 1) (index := 15) (k := c) (ref := "WetSuitPedalsShoes$Course") (zk_lt (hc (0, 1, 4) (by decide)).1 (by decide)) (zd_1 E (hc (0, 1, 4) (by decide)).1 _) rfl (zmi inU_1) 1 (by decide) (zm flRX1_15) rfl (v := .ref (E.1 (c + 1))) (rfl) dX1_remove_27 ?_
        refine lv_iload_n hx hb dX1_remove_30 rfl (lv_at hl 2 rfl) ?_
        refine lv_iconst (v := (1 : Int32)) hx hb dX1_remove_31 (by decide) ?_
        refine z_iadd hx hb (a := k) (b := 1) (n := k + 1) dX1_remove_32 rfl rfl rfl ?_
        refine z_iald C0 hP (k := (c + 1)) (i := k + 1) (v := (Gc (c + 1) (k + 1))) (hc (1, 11, 10) (by decide)).1 (Nat.lt_of_lt_of_eq (show k + 1 < 10 by omega) (hc (1, 11, 10) (by decide)).2.symm) rfl dX1_remove_33 (rfl) ?_
        refine z_iast C0 hP hD hS (k := (c + 1)) (i := k) (v := (Gc (c + 1) (k + 1))) (F := Gc (c + 1)) (rfl) (hc (1, 11, 10) (by decide)).1 (Nat.lt_of_lt_of_eq (show k < 10 by omega) (hc (1, 11, 10) (by decide)).2.symm) rfl dX1_remove_34 (fun H locs hP hS => ?_)
        refine lv_aload_n hx hb dX1_remove_35 rfl (lv_at hl 0 rfl) ?_
        refine z_get C0 hP (C := RX1) (T := TX1) (N := 4) (ci := 1) (index := 19) (k := c) (ref := "WetSuitPedalsShoes$Course") (zk_lt (hc (0, 1, 4) (by decide)).1 (by decide)) (zd_1 E (hc (0, 1, 4) (by decide)).1 _) rfl (zmi inU_1) 2 (by decide) (zm flRX1_19) rfl (v := .ref (E.1 (c + 2))) (rfl) dX1_remove_36 ?_
        refine lv_iload_n hx hb dX1_remove_39 rfl (lv_at hl 2 rfl) ?_
        refine lv_aload_n hx hb dX1_remove_40 rfl (lv_at hl 0 rfl) ?_
        refine z_get C0 hP (C := RX1) (T := TX1) (N := 4) (ci := 1) (index := 19) (k := c) (ref := "WetSuitPedalsShoes$Course") (zk_lt (hc (0, 1, 4) (by decide)).1 (by decide)) (zd_1 E (hc (0, 1, 4) (by decide)).1 _) rfl (zmi inU_1) 2 (by decide) (zm flRX1_19) rfl (v := .ref (E.1 (c + 2))) (rfl) dX1_remove_41 ?_
        refine lv_iload_n hx hb dX1_remove_44 rfl (lv_at hl 2 rfl) ?_
        refine lv_iconst (v := (1 : Int32)) hx hb dX1_remove_45 (by decide) ?_
        refine z_iadd hx hb (a := k) (b := 1) (n := k + 1) dX1_remove_46 rfl rfl rfl ?_
        refine z_iald C0 hP (k := (c + 2)) (i := k + 1) (v := (Gc (c + 2) (k + 1))) (hc (2, 11, 10) (by decide)).1 (Nat.lt_of_lt_of_eq (show k + 1 < 10 by omega) (hc (2, 11, 10) (by decide)).2.symm) rfl dX1_remove_47 (congrFun (g1_n (by omega)) _) ?_
        refine z_iast C0 hP hD hS (k := (c + 2)) (i := k) (v := (Gc (c + 2) (k + 1))) (F := Gc (c + 2)) (g1_n (by omega)) (hc (2, 11, 10) (by decide)).1 (Nat.lt_of_lt_of_eq (show k < 10 by omega) (hc (2, 11, 10) (by decide)).2.symm) rfl dX1_remove_48 (fun H locs hP hS => ?_)
        refine lv_aload_n hx hb dX1_remove_49 rfl (lv_at hl 0 rfl) ?_
        refine z_get C0 hP (C := RX1) (T := TX1) (N := 4) (ci := 1) (index := 22) (k := c) (ref := "WetSuitPedalsShoes$Course") (zk_lt (hc (0, 1, 4) (by decide)).1 (by decide)) (zd_1 E (hc (0, 1, 4) (by decide)).1 _) rfl (zmi inU_1) 3 (by decide) (zm flRX1_22) rfl (v := .ref (E.1 (c + 3))) (rfl) dX1_remove_50 ?_
        refine lv_iload_n hx hb dX1_remove_53 rfl (lv_at hl 2 rfl) ?_
        refine lv_aload_n hx hb dX1_remove_54 rfl (lv_at hl 0 rfl) ?_
        refine z_get C0 hP (C := RX1) (T := TX1) (N := 4) (ci := 1) (index := 22) (k := c) (ref := "WetSuitPedalsShoes$Course") (zk_lt (hc (0, 1, 4) (by decide)).1 (by decide)) (zd_1 E (hc (0, 1, 4) (by decide)).1 _) rfl (zmi inU_1) 3 (by decide) (zm flRX1_22) rfl (v := .ref (E.1 (c + 3))) (rfl) dX1_remove_55 ?_
        refine lv_iload_n hx hb dX1_remove_58 rfl (lv_at hl 2 rfl) ?_
        refine lv_iconst (v := (1 : Int32)) hx hb dX1_remove_59 (by decide) ?_
        refine z_iadd hx hb (a := k) (b := 1) (n := k + 1) dX1_remove_60 rfl rfl rfl ?_
        refine z_iald C0 hP (k := (c + 3)) (i := k + 1) (v := (Gc (c + 3) (k + 1))) (hc (3, 11, 10) (by decide)).1 (Nat.lt_of_lt_of_eq (show k + 1 < 10 by omega) (hc (3, 11, 10) (by decide)).2.symm) rfl dX1_remove_61 (congrFun ((g1_n (by omega)).trans (g1_n (by omega))) _) ?_
        refine z_iast C0 hP hD hS (k := (c + 3)) (i := k) (v := (Gc (c + 3) (k + 1))) (F := Gc (c + 3)) ((g1_n (by omega)).trans (g1_n (by omega))) (hc (3, 11, 10) (by decide)).1 (Nat.lt_of_lt_of_eq (show k < 10 by omega) (hc (3, 11, 10) (by decide)).2.symm) rfl dX1_remove_62 (fun H locs hP hS => ?_)
        refine lv_iinc (v := (nI (k + 1))) (lv' := [(2, .int (nI (k + 1))), (0, .ref (E.1 c)), (1, .int (nI i))]) hx hb dX1_remove_63 hl (k := 2) rfl (z_inc (by decide)) (by decide) rfl (fun ls hl => ?_)
        refine lv_goto (tgt := 11) hx hb dX1_remove_66 (by decide) ?_
        exact ih_11 (k + 1) (g1 (g1 (g1 Gc (c + 1) (upd (Gc (c + 1)) k (Gc (c + 1) (k + 1)))) (c + 2) (upd (Gc (c + 2)) k (Gc (c + 2) (k + 1)))) (c + 3) (upd (Gc (c + 3)) k (Gc (c + 3) (k + 1)))) _ _ _ (by omega) (by exact fun k hk => (g1_n (by omega)).trans ((g1_n (by omega)).trans ((g1_n (by omega)).trans (hFc k (by omega))))) (by intro j hj; exact ⟨(congrFun ((g1_n (by omega)).trans ((g1_n (by omega)).trans (g1_s _ _ _))) j).trans (s_shf_st (by omega) (hrow j hj).1 (hrow (k + 1) (by omega)).1), (congrFun ((g1_n (by omega)).trans (g1_s _ _ _)) j).trans (s_shf_st (by omega) (hrow j hj).2.1 (hrow (k + 1) (by omega)).2.1), (congrFun (g1_s _ _ _) j).trans (s_shf_st (by omega) (hrow j hj).2.2 (hrow (k + 1) (by omega)).2.2)⟩) hP hS (lv_sub hl [1, 2, 0] rfl) (by omega)
  exact cut_11 (_ + 1) i G _ _ _ (by omega) (by exact fun _ _ => rfl) (by exact fun j hj => ⟨s_shf_0.symm, s_shf_0.symm, s_shf_0.symm⟩) hP hS (lv_sub hl [1, 2, 0] rfl) (Nat.lt_succ_self _)
theorem mlRX10_85 : Cond.methodLink RX10 85 yX1_has ∈ zU := zU_m 645 (by decide +kernel) rfl
theorem mlRX10_88 : Cond.methodLink RX10 88 yX1_remove ∈ zU := zU_m 646 (by decide +kernel) rfl
theorem coX1_remove : Cond.code yX1_remove cX1_remove 3 none ∈ zU := zU_m 649 (by decide +kernel) rfl
theorem imX1_remove : Cond.instanceMethod yX1_remove ∈ zU := zU_m 647 (by decide +kernel) rfl
theorem seX1_remove : Cond.selects RX1 yX1_remove yX1_remove ∈ zU := zU_m 648 (by decide +kernel) rfl
set_option maxHeartbeats 4000000 in
set_option maxRecDepth 100000 in
theorem c_X10_leaveOut (l : Launch) (E : zE) (G : zG) (t n i : Nat) (ht : zIs t tTri) (hn : G (t + 1) 0 = nI n) (hn10 : n ≤ 10) (hi : i < n) : zMv l yX10_leaveOut wsX10_leaveOut ({ frames := 2, cells := 0, slots := 0, locals := 43 } : Room) E G [.ref (E.1 t), .int (nI i)] (fun G1 => (∀ k, (k < t + 1 ∨ (t + 4 < k ∧ k < t + 7) ∨ t + 7 < k) → G1 k = G k) ∧ G1 (t + 1) 0 = nI (n - 1) ∧ (∀ j, j < 10 → G1 (t + 2) j = s_shf (G (t + 2)) i (n - 1) j ∧ G1 (t + 3) j = s_shf (G (t + 3)) i (n - 1) j ∧ G1 (t + 4) j = s_shf (G (t + 4)) i (n - 1) j) ∧ ∀ j, j < 10 → G1 (t + 7) j = s_shf (G (t + 7)) i (n - 1) j) := by
  refine zOf (cc := cX10_leaveOut) (nL := 3) (ret := none) RX10 (by decide) rfl rfl (Nat.le_of_ble_eq_true rfl) ?_
  intro p_ e_ s_ m_ a_ b_ me_ c_ ls C0 hP hS hl
  have hx := C0.1
  have hb := C0.2.1
  have hts := C0.2.2.2.2.1
  have hD : zD E (zA E s_.heap.size) := C0.2.2.2.2.2.2.2.2
  have hA : ∀ q : Nat, s_.heap.size ≤ q → zA E s_.heap.size q := fun q h => Or.inr h
  refine z_gen (fun Q_ hQ_ => ?_)
  have hl : lv_has ls 3 [(0, .ref (E.1 t)), (1, .int (nI i))] := hl
  refine lv_aload_n hx hb dX10_leaveOut_0 rfl (lv_at hl 0 rfl) ?_
  refine z_get C0 hP (C := RX10) (T := TX10) (N := 6) (ci := 8) (index := 12) (k := t) (ref := "WetSuitPedalsShoes$Trial") (zk_lt (ht (0, 8, 6) (by decide)).1 (by decide)) (zd_8 E (ht (0, 8, 6) (by decide)).1 _) rfl (zmi inU_10) 0 (by decide) (zm flRX10_12) rfl (v := .ref (E.1 (t + 1))) (rfl) dX10_leaveOut_1 ?_
  refine lv_iload_n hx hb dX10_leaveOut_4 rfl (lv_at hl 1 rfl) ?_
  refine z_Vi C0 hP hD hA hS (As := [.int (nI i)]) (rest := []) (k := (t + 1)) (c_X1_hasN l E _ (t + 1) n i (zIs_sub ht 1 (by decide)) (hn) (by omega) (by omega)) (cwV 1 hts (zgV zbw mlRX10_85 imX1_has seX1_has iniRX1 coX1_has) rfl rfl rfl (by decide +kernel) ⟨Nat.le_of_ble_eq_true rfl, Nat.le_of_ble_eq_true rfl⟩) (zk_lt (ht (1, 1, 4) (by decide)).1 (by decide)) (zd_1 E (ht (1, 1, 4) (by decide)).1 _) rfl rfl rfl hl.1 rfl (Nat.le_of_ble_eq_true rfl) dX10_leaveOut_5 ⟨Nat.zero_le _, Nat.zero_le _⟩ (fun r1 G1 H locs hw1 hP hS => ?_)
  obtain ⟨rfl, rfl⟩ := hw1
  refine lv_if_ne (tgt := 12) hx hb dX10_leaveOut_8 (by decide) (fun _ => ?_) (fun h_ => absurd h_ (by decide))
  refine lv_iload_n hx hb dX10_leaveOut_12 rfl (lv_at hl 1 rfl) ?_
  refine lv_istore_n (lv' := [(2, .int (nI i)), (0, .ref (E.1 t)), (1, .int (nI i))]) hx hb dX10_leaveOut_13 rfl hl (by decide) rfl (fun ls hl => ?_)
  have cut_14 : ∀ (fuel : Nat), ∀ (k : Nat) (Gc : zG) (H : Heap) (locs : List Loc) (ls : Array Slot), (i ≤ k ∧ k + 1 ≤ n) → (∀ k, (k < t + 7 ∨ t + 7 < k) → Gc k = G k) → (∀ j, j < 10 → Gc (t + 7) j = s_shf (G (t + 7)) i k j) → zP E Gc H → va_S (zA E s_.heap.size) s_.heap H locs → lv_has ls 3 [(0, .ref (E.1 t)), (1, .int (nI i)), (2, .int (nI k))] → n - k < fuel → W p_ l e_ ({ frames := 2, cells := 0, slots := 0, locals := 43 } : Room) s_ m_ a_ b_ me_ c_ H locs 0 0 Q_ (F0 m_ 14 ls []) := by
    intro fuel
    induction fuel with
    | zero =>
      intro k  Gc  H locs ls hik hFc hrow hP hS hl hfu
      exact absurd hfu (Nat.not_lt_zero _)
    | succ fuel ih_14 =>
      intro k  Gc  H locs ls hik hFc hrow hP hS hl hfu_14
      refine lv_iload_n hx hb dX10_leaveOut_14 rfl (lv_at hl 2 rfl) ?_
      refine lv_iconst (v := (1 : Int32)) hx hb dX10_leaveOut_15 (by decide) ?_
      refine z_iadd hx hb (a := k) (b := 1) (n := k + 1) dX10_leaveOut_16 rfl rfl rfl ?_
      refine lv_aload_n hx hb dX10_leaveOut_17 rfl (lv_at hl 0 rfl) ?_
      refine z_get C0 hP (C := RX10) (T := TX10) (N := 6) (ci := 8) (index := 12) (k := t) (ref := "WetSuitPedalsShoes$Trial") (zk_lt (ht (0, 8, 6) (by decide)).1 (by decide)) (zd_8 E (ht (0, 8, 6) (by decide)).1 _) rfl (zmi inU_10) 0 (by decide) (zm flRX10_12) rfl (v := .ref (E.1 (t + 1))) (rfl) dX10_leaveOut_18 ?_
      refine z_get C0 hP (C := RX1) (T := TX1) (N := 4) (ci := 1) (index := 49) (k := (t + 1)) (ref := "WetSuitPedalsShoes$Course") (zk_lt (ht (1, 1, 4) (by decide)).1 (by decide)) (zd_1 E (ht (1, 1, 4) (by decide)).1 _) rfl (zmi inU_1) 0 (by decide) (zm flRX10_49) rfl (v := .int (nI n)) (congrArg (fun z => some (Value.int z)) ((congrFun (hFc _ (by omega)) _).trans (hn))) dX10_leaveOut_21 ?_
      refine z_N_ge hx hb (a := k + 1) (b := n) (tgt := 53) dX10_leaveOut_24 rfl rfl (by omega) (by omega) (by decide) (fun c_24 => ?_) (fun c_24 => ?_)
      · skip
        refine lv_aload_n hx hb dX10_leaveOut_53 rfl (lv_at hl 0 rfl) ?_
        refine z_get C0 hP (C := RX10) (T := TX10) (N := 6) (ci := 8) (index := 12) (k := t) (ref := "WetSuitPedalsShoes$Trial") (zk_lt (ht (0, 8, 6) (by decide)).1 (by decide)) (zd_8 E (ht (0, 8, 6) (by decide)).1 _) rfl (zmi inU_10) 0 (by decide) (zm flRX10_12) rfl (v := .ref (E.1 (t + 1))) (rfl) dX10_leaveOut_54 ?_
        refine lv_iload_n hx hb dX10_leaveOut_57 rfl (lv_at hl 1 rfl) ?_
        refine z_Vv C0 hP hD hA hS (As := [.int (nI i)]) (rest := []) (k := (t + 1)) (c_X1_remove l E _ (t + 1) n i (zIs_sub ht 1 (by decide)) ((congrFun (hFc _ (by omega)) _).trans (hn)) (by omega) (by omega)) (cwV 1 hts (zgV zbw mlRX10_88 imX1_remove seX1_remove iniRX1 coX1_remove) rfl rfl rfl (by decide +kernel) ⟨Nat.le_of_ble_eq_true rfl, Nat.le_of_ble_eq_true rfl⟩) (zk_lt (ht (1, 1, 4) (by decide)).1 (by decide)) (zd_1 E (ht (1, 1, 4) (by decide)).1 _) rfl rfl rfl hl.1 rfl (Nat.le_of_ble_eq_true rfl) dX10_leaveOut_58 ⟨Nat.zero_le _, Nat.zero_le _⟩ (fun G2 H locs hw2 hP hS => ?_)
        obtain ⟨hF2, hmn2, hkf2⟩ := hw2
        subst hQ_
        exact z_vret C0 hP hS (by have e9 : k = n - 1 := (by omega); have h9 := hrow; rw [e9] at h9; exact ⟨(fun k hk => (hF2 k (by omega)).trans (hFc k (by omega))), hmn2, (fun j hj => ⟨(hkf2 j hj).1.trans (congrArg (fun F => s_shf F i (n - 1) j) (hFc _ (by omega))), (hkf2 j hj).2.1.trans (congrArg (fun F => s_shf F i (n - 1) j) (hFc _ (by omega))), (hkf2 j hj).2.2.trans (congrArg (fun F => s_shf F i (n - 1) j) (hFc _ (by omega)))⟩), fun j hj => (congrFun (hF2 _ (by omega)) j).trans (h9 j hj)⟩) dX10_leaveOut_61
      · skip
        refine lv_aload_n hx hb dX10_leaveOut_27 rfl (lv_at hl 0 rfl) ?_
        refine z_get C0 hP (C := RX10) (T := TX10) (N := 6) (ci := 8) (index := 21) (k := t) (ref := "WetSuitPedalsShoes$Trial") (zk_lt (ht (0, 8, 6) (by decide)).1 (by decide)) (zd_8 E (ht (0, 8, 6) (by decide)).1 _) rfl (zmi inU_10) 1 (by decide) (zm flRX10_21) rfl (v := .ref (E.1 (t + 5))) (rfl) dX10_leaveOut_28 ?_
        refine z_get C0 hP (C := RX0) (T := TX0) (N := 2) (ci := 0) (index := 52) (k := (t + 5)) (ref := "WetSuitPedalsShoes$Athlete") (zk_lt (ht (5, 0, 2) (by decide)).1 (by decide)) (zd_0 E (ht (5, 0, 2) (by decide)).1 _) rfl (zmi inU_0) 1 (by decide) (zm flRX10_52) rfl (v := .ref (E.1 (t + 7))) (rfl) dX10_leaveOut_31 ?_
        refine lv_iload_n hx hb dX10_leaveOut_34 rfl (lv_at hl 2 rfl) ?_
        refine lv_aload_n hx hb dX10_leaveOut_35 rfl (lv_at hl 0 rfl) ?_
        refine z_get C0 hP (C := RX10) (T := TX10) (N := 6) (ci := 8) (index := 21) (k := t) (ref := "WetSuitPedalsShoes$Trial") (zk_lt (ht (0, 8, 6) (by decide)).1 (by decide)) (zd_8 E (ht (0, 8, 6) (by decide)).1 _) rfl (zmi inU_10) 1 (by decide) (zm flRX10_21) rfl (v := .ref (E.1 (t + 5))) (rfl) dX10_leaveOut_36 ?_
        refine z_get C0 hP (C := RX0) (T := TX0) (N := 2) (ci := 0) (index := 52) (k := (t + 5)) (ref := "WetSuitPedalsShoes$Athlete") (zk_lt (ht (5, 0, 2) (by decide)).1 (by decide)) (zd_0 E (ht (5, 0, 2) (by decide)).1 _) rfl (zmi inU_0) 1 (by decide) (zm flRX10_52) rfl (v := .ref (E.1 (t + 7))) (rfl) dX10_leaveOut_39 ?_
        refine lv_iload_n hx hb dX10_leaveOut_42 rfl (lv_at hl 2 rfl) ?_
        refine lv_iconst (v := (1 : Int32)) hx hb dX10_leaveOut_43 (by decide) ?_
        refine z_iadd hx hb (a := k) (b := 1) (n := k + 1) dX10_leaveOut_44 rfl rfl rfl ?_
        refine z_iald C0 hP (k := (t + 7)) (i := k + 1) (v := (Gc (t + 7) (k + 1))) (ht (7, 11, 10) (by decide)).1 (Nat.lt_of_lt_of_eq (show k + 1 < 10 by omega) (ht (7, 11, 10) (by decide)).2.symm) rfl dX10_leaveOut_45 (rfl) ?_
        refine z_iast C0 hP hD hS (k := (t + 7)) (i := k) (v := (Gc (t + 7) (k + 1))) (F := Gc (t + 7)) (rfl) (ht (7, 11, 10) (by decide)).1 (Nat.lt_of_lt_of_eq (show k < 10 by omega) (ht (7, 11, 10) (by decide)).2.symm) rfl dX10_leaveOut_46 (fun H locs hP hS => ?_)
        refine lv_iinc (v := (nI (k + 1))) (lv' := [(2, .int (nI (k + 1))), (0, .ref (E.1 t)), (1, .int (nI i))]) hx hb dX10_leaveOut_47 hl (k := 2) rfl (z_inc (by decide)) (by decide) rfl (fun ls hl => ?_)
        refine lv_goto (tgt := 14) hx hb dX10_leaveOut_50 (by decide) ?_
        exact ih_14 (k + 1) (g1 Gc (t + 7) (upd (Gc (t + 7)) k (Gc (t + 7) (k + 1)))) _ _ _ (by omega) (by exact fun k hk => (g1_n (by omega)).trans (hFc k (by omega))) (by intro j hj; exact (congrFun (g1_s _ _ _) j).trans (s_shf_st (by omega) (hrow j hj) (hrow (k + 1) (by omega)))) hP hS (lv_sub hl [1, 2, 0] rfl) (by omega)
  exact cut_14 (_ + 1) i G _ _ _ (by omega) (by exact fun _ _ => rfl) (by exact fun j hj => s_shf_0.symm) hP hS (lv_sub hl [1, 2, 0] rfl) (Nat.lt_succ_self _)
theorem mlRX11_211 : Cond.methodLink RX11 211 yX10_leaveOut ∈ zU := zU_m 641 (by decide +kernel) rfl
theorem coX10_leaveOut : Cond.code yX10_leaveOut cX10_leaveOut 3 none ∈ zU := zU_m 644 (by decide +kernel) rfl
theorem imX10_leaveOut : Cond.instanceMethod yX10_leaveOut ∈ zU := zU_m 642 (by decide +kernel) rfl
theorem seX10_leaveOut : Cond.selects RX10 yX10_leaveOut yX10_leaveOut ∈ zU := zU_m 643 (by decide +kernel) rfl
set_option maxHeartbeats 4000000 in
set_option maxRecDepth 100000 in
theorem c_X11_leave (l : Launch) (E : zE) (G : zG) (r : Nat → Int32) (n na : Nat) (athlete what : Int32) (hR : zFA G 1 r n na) (hn10 : n ≤ 10) (hna : na ≤ 5) (hp : zPl G) (hkd : zKd r n) (hV : zVr r n na) : zMi l yX11_leave wsX11_leave ({ frames := 4, cells := 0, slots := 0, locals := 90 } : Room) E G [.ref (E.1 0), .int athlete, .int what] (fun r1 G1 => zQc (A_leave r n na athlete what) G r1 G1) := by
  refine zOf (cc := cX11_leave) (nL := 7) (ret := (some .int)) RX11 (by decide) rfl rfl (Nat.le_of_ble_eq_true rfl) ?_
  intro p_ e_ s_ m_ a_ b_ me_ c_ ls C0 hP hS hl
  have hx := C0.1
  have hb := C0.2.1
  have hts := C0.2.2.2.2.1
  have hD : zD E (zA E s_.heap.size) := C0.2.2.2.2.2.2.2.2
  have hA : ∀ q : Nat, s_.heap.size ≤ q → zA E s_.heap.size q := fun q h => Or.inr h
  refine z_gen (fun Q_ hQ_ => ?_)
  have hl : lv_has ls 7 [(0, .ref (E.1 0)), (1, .int athlete), (2, .int what)] := hl
  refine lv_aload_n hx hb dX11_leave_0 rfl (lv_at hl 0 rfl) ?_
  refine z_get C0 hP (C := RX11) (T := TX11) (N := 11) (ci := 9) (index := 10) (k := 0) (ref := "WetSuitPedalsShoes") (zk_lt (rfl : zk 0 = 9) (by decide)) (zd_9 E (rfl : zk 0 = 9) _) rfl (zmi inU_11) 0 (by decide) (zm flRX11_10) rfl (v := .ref (E.1 1)) (rfl) dX11_leave_1 ?_
  refine lv_iload_n hx hb dX11_leave_4 rfl (lv_at hl 1 rfl) ?_
  refine z_Vi C0 hP hD hA hS (As := [.int athlete]) (rest := []) (k := 1) (c_X3_has l E _ 1 na athlete z_lit_Fie_1 (hR.2.1) (by omega)) (cwV 1 hts (zgV zbw mlRX11_117 imX3_has seX3_has iniRX3 coX3_has) rfl rfl rfl (by decide +kernel) ⟨Nat.le_of_ble_eq_true rfl, Nat.le_of_ble_eq_true rfl⟩) (zk_lt (rfl : zk 1 = 3) (by decide)) (zd_3 E (rfl : zk 1 = 3) _) rfl rfl rfl hl.1 rfl (Nat.le_of_ble_eq_true rfl) dX11_leave_5 ⟨Nat.zero_le _, Nat.zero_le _⟩ (fun r1 G1 H locs hw1 hP hS => ?_)
  rcases hw1 with ⟨rfl, rfl, ia, hia, rfl⟩ | ⟨rfl, rfl, hno1⟩
  · skip
    have hz_ia := zin_t hia (by omega)
    have hy_ia : zix (nI ia) = ia := zix_n (by omega)
    refine lv_if_ne (tgt := 17) hx hb dX11_leave_8 (by decide) (fun _ => ?_) (fun h_ => absurd h_ (by decide))
    refine lv_iload_n hx hb dX11_leave_17 rfl (lv_at hl 2 rfl) ?_
    refine lv_if_lt (tgt := 26) hx hb dX11_leave_18 (by decide) (fun c_18 => ?_) (fun c_18 => ?_)
    · skip
      refine lv_aload_n hx hb dX11_leave_26 rfl (lv_at hl 0 rfl) ?_
      refine lv_bipush (v := (-2 : Int32)) hx hb dX11_leave_27 (by decide) ?_
      refine z_Vi C0 hP hD hA hS (As := [.int (-2 : Int32)]) (rest := []) (k := 0) (c_X11_refuse l E _ (-2 : Int32) 2 (by decide) (by decide) (by decide)) (cwV 1 hts (zgV zbw mlRX11_72 imX11_refuse seX11_refuse iniRX11 coX11_refuse) rfl rfl rfl (by decide +kernel) ⟨Nat.le_of_ble_eq_true rfl, Nat.le_of_ble_eq_true rfl⟩) (zk_lt (rfl : zk 0 = 9) (by decide)) (zd_9 E (rfl : zk 0 = 9) _) rfl rfl rfl hl.1 rfl (Nat.le_of_ble_eq_true rfl) dX11_leave_29 ⟨Nat.zero_le _, Nat.zero_le _⟩ (fun r2 G2 H locs hw2 hP hS => ?_)
      obtain ⟨rfl, rfl⟩ := hw2
      subst hQ_
      exact z_iret C0 hP hS (v := (-2 : Int32)) (by exact zQc_of (k := 2) (by simp [A_leave, hz_ia, hy_ia, c_18]) (fun k hk => g1_n (by omega)) (g1_s _ _ _) (z_plk (g1_n (by decide)) hp)) dX11_leave_32
    · skip
      refine lv_iload_n hx hb dX11_leave_21 rfl (lv_at hl 2 rfl) ?_
      refine lv_iconst (v := (1 : Int32)) hx hb dX11_leave_22 (by decide) ?_
      refine lv_icmp_le (tgt := 33) hx hb dX11_leave_23 (by decide) (fun c_23 => ?_) (fun c_23 => ?_)
      · skip
        have d_23 := Int32.not_lt.mpr c_23
        refine lv_bipush (v := (-9 : Int32)) hx hb dX11_leave_33 (by decide) ?_
        refine lv_istore_n (lv' := [(3, .int (-9 : Int32)), (0, .ref (E.1 0)), (1, .int (nI ia)), (2, .int what)]) hx hb dX11_leave_35 rfl hl (by decide) rfl (fun ls hl => ?_)
        refine lv_iconst (v := (0 : Int32)) hx hb dX11_leave_36 (by decide) ?_
        refine lv_istore (lv' := [(4, .int (0 : Int32)), (3, .int (-9 : Int32)), (0, .ref (E.1 0)), (1, .int (nI ia)), (2, .int what)]) hx hb dX11_leave_37 hl (by decide) rfl (fun ls hl => ?_)
        refine lv_iconst (v := (0 : Int32)) hx hb dX11_leave_39 (by decide) ?_
        refine lv_istore (lv' := [(5, .int (0 : Int32)), (4, .int (0 : Int32)), (3, .int (-9 : Int32)), (0, .ref (E.1 0)), (1, .int (nI ia)), (2, .int what)]) hx hb dX11_leave_40 hl (by decide) rfl (fun ls hl => ?_)
        have cut_42 : ∀ (fuel : Nat), ∀ (i : Nat) (b z : Int32) (Gc : zG) (H : Heap) (locs : List Loc) (ls : Array Slot), (i ≤ n) → (∀ k, (k < 48 ∨ 58 < k) → Gc k = G k) → ((b, z) = c_min (q_lv r n ia) i) → zP E Gc H → va_S (zA E s_.heap.size) s_.heap H locs → lv_has ls 7 [(0, .ref (E.1 0)), (1, .int (nI ia)), (2, .int what), (3, .int z), (4, .int b), (5, .int (nI i))] → n - i < fuel → W p_ l e_ ({ frames := 4, cells := 0, slots := 0, locals := 90 } : Room) s_ m_ a_ b_ me_ c_ H locs 0 0 Q_ (F0 m_ 42 ls []) := by
          intro fuel
          induction fuel with
          | zero =>
            intro i  b z  Gc  H locs ls hin hFc hob hP hS hl hfu
            exact absurd hfu (Nat.not_lt_zero _)
          | succ fuel ih_42 =>
            intro i  b z  Gc  H locs ls hin hFc hob hP hS hl hfu_42
            refine lv_iload hx hb dX11_leave_42 (lv_at hl 5 rfl) ?_
            refine lv_aload_n hx hb dX11_leave_44 rfl (lv_at hl 0 rfl) ?_
            refine z_get C0 hP (C := RX11) (T := TX11) (N := 11) (ci := 9) (index := 10) (k := 0) (ref := "WetSuitPedalsShoes") (zk_lt (rfl : zk 0 = 9) (by decide)) (zd_9 E (rfl : zk 0 = 9) _) rfl (zmi inU_11) 0 (by decide) (zm flRX11_10) rfl (v := .ref (E.1 1)) (rfl) dX11_leave_45 ?_
            refine z_get C0 hP (C := RX3) (T := TX3) (N := 3) (ci := 3) (index := 93) (k := 1) (ref := "WetSuitPedalsShoes$Field") (zk_lt (rfl : zk 1 = 3) (by decide)) (zd_3 E (rfl : zk 1 = 3) _) rfl (zmi inU_3) 0 (by decide) (zm flRX11_93) rfl (v := .ref (E.1 2)) (rfl) dX11_leave_48 ?_
            refine z_get C0 hP (C := RX1) (T := TX1) (N := 4) (ci := 1) (index := 138) (k := 2) (ref := "WetSuitPedalsShoes$Course") (zk_lt (rfl : zk 2 = 1) (by decide)) (zd_1 E (rfl : zk 2 = 1) _) rfl (zmi inU_1) 0 (by decide) (zm flRX11_138) rfl (v := .int (nI n)) (congrArg (fun z => some (Value.int z)) ((congrFun (hFc _ (by decide)) _).trans (hR.1))) dX11_leave_51 ?_
            refine z_N_ge hx hb (a := i) (b := n) (tgt := 124) dX11_leave_54 rfl rfl (by omega) (by omega) (by decide) (fun c_54 => ?_) (fun c_54 => ?_)
            · skip
              have e8 : i = n := (by omega)
              rw [e8] at hob
              obtain ⟨e1, e2, e3⟩ := c_min_end hn10 (q_lv_b hV hia hna hn10) hob
              refine lv_iload_n hx hb dX11_leave_124 rfl (lv_at hl 2 rfl) ?_
              refine lv_if_eq (tgt := 134) hx hb dX11_leave_125 (by decide) (fun c_125 => ?_) (fun c_125 => ?_)
              · skip
                refine lv_iload_n hx hb dX11_leave_134 rfl (lv_at hl 3 rfl) ?_
                refine lv_goto (tgt := 140) hx hb dX11_leave_135 (by decide) ?_
                subst hQ_
                exact z_iret C0 hP hS (v := z) (by exact zQc_of (k := 0) (by simp [A_leave, hz_ia, hy_ia, c_18, d_23, c_54, e1, c_125]) (fun k hk => hFc k (by omega)) (hFc _ (by decide)) (z_plk (hFc _ (by decide)) hp)) dX11_leave_140
              · skip
                refine lv_iload_n hx hb dX11_leave_128 rfl (lv_at hl 3 rfl) ?_
                refine lv_bipush (v := (-9 : Int32)) hx hb dX11_leave_129 (by decide) ?_
                refine lv_icmp_ne (tgt := 138) hx hb dX11_leave_131 (by decide) (fun c_131 => ?_) (fun c_131 => ?_)
                · skip
                  obtain ⟨e4, e5⟩ := e3 c_131
                  refine lv_iload hx hb dX11_leave_138 (lv_at hl 4 rfl) ?_
                  subst hQ_
                  exact z_iret C0 hP hS (v := b) (by exact zQc_of (k := 0) (by simp [A_leave, hz_ia, hy_ia, c_18, d_23, c_54, e1, c_125, c_131, e4, e5]) (fun k hk => hFc k (by omega)) (hFc _ (by decide)) (z_plk (hFc _ (by decide)) hp)) dX11_leave_140
                · skip
                  have e4 := e2 (by first | exact c_131 | exact Classical.not_not.mp c_131)
                  refine lv_iload_n hx hb dX11_leave_134 rfl (lv_at hl 3 rfl) ?_
                  refine lv_goto (tgt := 140) hx hb dX11_leave_135 (by decide) ?_
                  subst hQ_
                  exact z_iret C0 hP hS (v := z) (by exact zQc_of (k := 0) (by simp [A_leave, hz_ia, hy_ia, c_18, d_23, c_54, e1, c_125, c_131, e4]) (fun k hk => hFc k (by omega)) (hFc _ (by decide)) (z_plk (hFc _ (by decide)) hp)) dX11_leave_140
            · skip
              refine lv_aload_n hx hb dX11_leave_57 rfl (lv_at hl 0 rfl) ?_
              refine z_get C0 hP (C := RX11) (T := TX11) (N := 11) (ci := 9) (index := 44) (k := 0) (ref := "WetSuitPedalsShoes") (zk_lt (rfl : zk 0 = 9) (by decide)) (zd_9 E (rfl : zk 0 = 9) _) rfl (zmi inU_11) 6 (by decide) (zm flRX11_44) rfl (v := .ref (E.1 48)) (rfl) dX11_leave_58 ?_
              refine lv_aload_n hx hb dX11_leave_61 rfl (lv_at hl 0 rfl) ?_
              refine z_get C0 hP (C := RX11) (T := TX11) (N := 11) (ci := 9) (index := 10) (k := 0) (ref := "WetSuitPedalsShoes") (zk_lt (rfl : zk 0 = 9) (by decide)) (zd_9 E (rfl : zk 0 = 9) _) rfl (zmi inU_11) 0 (by decide) (zm flRX11_10) rfl (v := .ref (E.1 1)) (rfl) dX11_leave_62 ?_
              refine z_get C0 hP (C := RX3) (T := TX3) (N := 3) (ci := 3) (index := 93) (k := 1) (ref := "WetSuitPedalsShoes$Field") (zk_lt (rfl : zk 1 = 3) (by decide)) (zd_3 E (rfl : zk 1 = 3) _) rfl (zmi inU_3) 0 (by decide) (zm flRX11_93) rfl (v := .ref (E.1 2)) (rfl) dX11_leave_65 ?_
              refine lv_aload_n hx hb dX11_leave_68 rfl (lv_at hl 0 rfl) ?_
              refine z_get C0 hP (C := RX11) (T := TX11) (N := 11) (ci := 9) (index := 10) (k := 0) (ref := "WetSuitPedalsShoes") (zk_lt (rfl : zk 0 = 9) (by decide)) (zd_9 E (rfl : zk 0 = 9) _) rfl (zmi inU_11) 0 (by decide) (zm flRX11_10) rfl (v := .ref (E.1 1)) (rfl) dX11_leave_69 ?_
              refine z_get C0 hP (C := RX3) (T := TX3) (N := 3) (ci := 3) (index := 118) (k := 1) (ref := "WetSuitPedalsShoes$Field") (zk_lt (rfl : zk 1 = 3) (by decide)) (zd_3 E (rfl : zk 1 = 3) _) rfl (zmi inU_3) 1 (by decide) (zm flRX11_118) rfl (v := .ref (E.1 6)) (rfl) dX11_leave_72 ?_
              refine lv_iload_n hx hb dX11_leave_75 rfl (lv_at hl 1 rfl) ?_
              refine z_aald C0 hP (k := 6) (i := ia) (rfl : zk 6 = 12) (by omega) rfl dX11_leave_76 (fun at_3 hat_3 => ?_)
              have kat_3 : zIs at_3 tAth := hat_3 ▸ zIs_ath z_lit_Fie_1 (by omega)
              refine z_Vv C0 hP hD hA hS (As := [.ref (E.1 2), .ref (E.1 at_3)]) (rest := []) (k := 48) (c_X10_load l E _ 48 2 at_3 z_lit_Tri_48 z_lit_Cou_2 kat_3 (by omega) (by omega)) (cwV 2 hts (zgV zbw mlRX11_164 imX10_load seX10_load iniRX10 coX10_load) rfl rfl rfl (by decide +kernel) ⟨Nat.le_of_ble_eq_true rfl, Nat.le_of_ble_eq_true rfl⟩) (zk_lt (rfl : zk 48 = 8) (by decide)) (zd_8 E (rfl : zk 48 = 8) _) rfl rfl rfl hl.1 rfl (Nat.le_of_ble_eq_true rfl) dX11_leave_77 ⟨Nat.zero_le _, Nat.zero_le _⟩ (fun G4 H locs hw4 hP hS => ?_)
              obtain ⟨hF4, hmn4, hkf4, hab4, htr4, hdr4⟩ := hw4
              have hTA4 := zTA_load (t := 48) (zFA_fr hR (fun k hk => hFc k (by omega)) hna) hat_3 hia hmn4 hkf4 hab4 htr4
              refine lv_aload_n hx hb dX11_leave_80 rfl (lv_at hl 0 rfl) ?_
              refine z_get C0 hP (C := RX11) (T := TX11) (N := 11) (ci := 9) (index := 44) (k := 0) (ref := "WetSuitPedalsShoes") (zk_lt (rfl : zk 0 = 9) (by decide)) (zd_9 E (rfl : zk 0 = 9) _) rfl (zmi inU_11) 6 (by decide) (zm flRX11_44) rfl (v := .ref (E.1 48)) (rfl) dX11_leave_81 ?_
              refine lv_iload hx hb dX11_leave_84 (lv_at hl 5 rfl) ?_
              refine z_Vv C0 hP hD hA hS (As := [.int (nI i)]) (rest := []) (k := 48) (c_X10_leaveOut l E _ 48 n i z_lit_Tri_48 (hTA4.1) (by omega) (by omega)) (cwV 1 hts (zgV zbw mlRX11_211 imX10_leaveOut seX10_leaveOut iniRX10 coX10_leaveOut) rfl rfl rfl (by decide +kernel) ⟨Nat.le_of_ble_eq_true rfl, Nat.le_of_ble_eq_true rfl⟩) (zk_lt (rfl : zk 48 = 8) (by decide)) (zd_8 E (rfl : zk 48 = 8) _) rfl rfl rfl hl.1 rfl (Nat.le_of_ble_eq_true rfl) dX11_leave_86 ⟨Nat.zero_le _, Nat.zero_le _⟩ (fun G5 H locs hw5 hP hS => ?_)
              obtain ⟨hF5, hmn5, hkf5, htr5⟩ := hw5
              have hTA5 := zTA_lv (t := 48) hTA4 (by omega) hn10 hmn5 hkf5 (hF5 54 (by omega)) htr5
              refine lv_aload_n hx hb dX11_leave_89 rfl (lv_at hl 0 rfl) ?_
              refine z_get C0 hP (C := RX11) (T := TX11) (N := 11) (ci := 9) (index := 44) (k := 0) (ref := "WetSuitPedalsShoes") (zk_lt (rfl : zk 0 = 9) (by decide)) (zd_9 E (rfl : zk 0 = 9) _) rfl (zmi inU_11) 6 (by decide) (zm flRX11_44) rfl (v := .ref (E.1 48)) (rfl) dX11_leave_90 ?_
              refine z_Vi C0 hP hD hA hS (As := []) (rest := []) (k := 48) (c_X10_run l E _ 48 (n - 1) z_lit_Tri_48 (hmn5) (by omega)) (cwV 0 hts (zgV zbw mlRX11_168 imX10_run seX10_run iniRX10 coX10_run) rfl rfl rfl (by decide +kernel) ⟨Nat.le_of_ble_eq_true rfl, Nat.le_of_ble_eq_true rfl⟩) (zk_lt (rfl : zk 48 = 8) (by decide)) (zd_8 E (rfl : zk 48 = 8) _) rfl rfl rfl hl.1 rfl (Nat.le_of_ble_eq_true rfl) dX11_leave_93 ⟨Nat.zero_le _, Nat.zero_le _⟩ (fun r6 G6 H locs hw6 hP hS => ?_)
              obtain ⟨hr6, hF6, hrow6⟩ := hw6
              have h96 := zTA_ran9 hTA5 (zKd_V (zVs_lv hV.1 hn10)) (by omega) hr6 hrow6 ((congrFun (hF5 _ (by decide)) _).trans (hdr4))
              have hr6 : q_lv r n ia i = _ := h96.1
              subst hr6
              refine lv_istore (lv' := [(6, .int (q_lv r n ia i)), (0, .ref (E.1 0)), (1, .int (nI ia)), (2, .int what), (3, .int z), (4, .int b), (5, .int (nI i))]) hx hb dX11_leave_96 hl (by decide) rfl (fun ls hl => ?_)
              refine lv_iload_n hx hb dX11_leave_98 rfl (lv_at hl 4 rfl) ?_
              refine lv_bipush (v := (-9 : Int32)) hx hb dX11_leave_99 (by decide) ?_
              refine lv_icmp_eq (tgt := 111) hx hb dX11_leave_101 (by decide) (fun c_101 => ?_) (fun c_101 => ?_)
              · skip
                have hob := c_min_y hob (Or.inl c_101)
                refine lv_iload hx hb dX11_leave_111 (lv_at hl 0 rfl) ?_
                refine lv_istore (lv' := [(4, .int (q_lv r n ia i)), (6, .int (q_lv r n ia i)), (0, .ref (E.1 0)), (1, .int (nI ia)), (2, .int what), (3, .int z), (5, .int (nI i))]) hx hb dX11_leave_113 hl (by decide) rfl (fun ls hl => ?_)
                refine lv_iload hx hb dX11_leave_115 (lv_at hl 6 rfl) ?_
                refine lv_istore_n (lv' := [(3, .int (nI i)), (4, .int (q_lv r n ia i)), (6, .int (q_lv r n ia i)), (0, .ref (E.1 0)), (1, .int (nI ia)), (2, .int what), (5, .int (nI i))]) hx hb dX11_leave_117 rfl hl (by decide) rfl (fun ls hl => ?_)
                refine lv_iinc (v := (nI (i + 1))) (lv' := [(5, .int (nI (i + 1))), (3, .int (nI i)), (4, .int (q_lv r n ia i)), (6, .int (q_lv r n ia i)), (0, .ref (E.1 0)), (1, .int (nI ia)), (2, .int what)]) hx hb dX11_leave_118 hl (k := 6) rfl (z_inc (by decide)) (by decide) rfl (fun ls hl => ?_)
                refine lv_goto (tgt := 42) hx hb dX11_leave_121 (by decide) ?_
                exact ih_42 (i + 1) (q_lv r n ia i) (nI i) G6 _ _ _ (by first | assumption | omega) (by exact fun k hk => (hF6 k (by omega)).trans ((hF5 k (by omega)).trans ((hF4 k (by omega)).trans (hFc k (by omega))))) (by exact hob) hP hS (lv_sub hl [4, 5, 6, 1, 2, 0] rfl) (by omega)
              · skip
                refine lv_iload hx hb dX11_leave_104 (lv_at hl 0 rfl) ?_
                refine lv_iload hx hb dX11_leave_106 (lv_at hl 5 rfl) ?_
                refine lv_icmp_ge (tgt := 118) hx hb dX11_leave_108 (by decide) (fun c_108 => ?_) (fun c_108 => ?_)
                · skip
                  have d_108 := Int32.not_lt.mpr c_108
                  have hob := c_min_n hob (fun q => q.elim c_101 d_108)
                  refine lv_iinc (v := (nI (i + 1))) (lv' := [(5, .int (nI (i + 1))), (6, .int (q_lv r n ia i)), (0, .ref (E.1 0)), (1, .int (nI ia)), (2, .int what), (3, .int z), (4, .int b)]) hx hb dX11_leave_118 hl (k := 6) rfl (z_inc (by decide)) (by decide) rfl (fun ls hl => ?_)
                  refine lv_goto (tgt := 42) hx hb dX11_leave_121 (by decide) ?_
                  exact ih_42 (i + 1) b z G6 _ _ _ (by first | assumption | omega) (by exact fun k hk => (hF6 k (by omega)).trans ((hF5 k (by omega)).trans ((hF4 k (by omega)).trans (hFc k (by omega))))) (by exact hob) hP hS (lv_sub hl [2, 3, 4, 5, 6, 0] rfl) (by omega)
                · skip
                  have d_108 := Int32.not_le.mp c_108
                  have hob := c_min_y hob (Or.inr d_108)
                  refine lv_iload hx hb dX11_leave_111 (lv_at hl 0 rfl) ?_
                  refine lv_istore (lv' := [(4, .int (q_lv r n ia i)), (6, .int (q_lv r n ia i)), (0, .ref (E.1 0)), (1, .int (nI ia)), (2, .int what), (3, .int z), (5, .int (nI i))]) hx hb dX11_leave_113 hl (by decide) rfl (fun ls hl => ?_)
                  refine lv_iload hx hb dX11_leave_115 (lv_at hl 6 rfl) ?_
                  refine lv_istore_n (lv' := [(3, .int (nI i)), (4, .int (q_lv r n ia i)), (6, .int (q_lv r n ia i)), (0, .ref (E.1 0)), (1, .int (nI ia)), (2, .int what), (5, .int (nI i))]) hx hb dX11_leave_117 rfl hl (by decide) rfl (fun ls hl => ?_)
                  refine lv_iinc (v := (nI (i + 1))) (lv' := [(5, .int (nI (i + 1))), (3, .int (nI i)), (4, .int (q_lv r n ia i)), (6, .int (q_lv r n ia i)), (0, .ref (E.1 0)), (1, .int (nI ia)), (2, .int what)]) hx hb dX11_leave_118 hl (k := 6) rfl (z_inc (by decide)) (by decide) rfl (fun ls hl => ?_)
                  refine lv_goto (tgt := 42) hx hb dX11_leave_121 (by decide) ?_
                  exact ih_42 (i + 1) (q_lv r n ia i) (nI i) G6 _ _ _ (by first | assumption | omega) (by exact fun k hk => (hF6 k (by omega)).trans ((hF5 k (by omega)).trans ((hF4 k (by omega)).trans (hFc k (by omega))))) (by exact hob) hP hS (lv_sub hl [4, 5, 6, 1, 2, 0] rfl) (by omega)
        exact cut_42 (_ + 1) 0 (0 : Int32) (-9 : Int32) G _ _ _ (by first | assumption | omega) (by exact fun k hk => rfl) (by rfl) hP hS (lv_sub hl [3, 4, 5, 2, 1, 0] rfl) (Nat.lt_succ_self _)
      · skip
        have d_23 := Int32.not_le.mp c_23
        refine lv_aload_n hx hb dX11_leave_26 rfl (lv_at hl 0 rfl) ?_
        refine lv_bipush (v := (-2 : Int32)) hx hb dX11_leave_27 (by decide) ?_
        refine z_Vi C0 hP hD hA hS (As := [.int (-2 : Int32)]) (rest := []) (k := 0) (c_X11_refuse l E _ (-2 : Int32) 2 (by decide) (by decide) (by decide)) (cwV 1 hts (zgV zbw mlRX11_72 imX11_refuse seX11_refuse iniRX11 coX11_refuse) rfl rfl rfl (by decide +kernel) ⟨Nat.le_of_ble_eq_true rfl, Nat.le_of_ble_eq_true rfl⟩) (zk_lt (rfl : zk 0 = 9) (by decide)) (zd_9 E (rfl : zk 0 = 9) _) rfl rfl rfl hl.1 rfl (Nat.le_of_ble_eq_true rfl) dX11_leave_29 ⟨Nat.zero_le _, Nat.zero_le _⟩ (fun r7 G7 H locs hw7 hP hS => ?_)
        obtain ⟨rfl, rfl⟩ := hw7
        subst hQ_
        exact z_iret C0 hP hS (v := (-2 : Int32)) (by exact zQc_of (k := 2) (by simp [A_leave, hz_ia, hy_ia, c_18, d_23]) (fun k hk => g1_n (by omega)) (g1_s _ _ _) (z_plk (g1_n (by decide)) hp)) dX11_leave_32
  · skip
    have hz_ia := zin_f (by omega) hno1
    refine lv_if_ne (tgt := 17) hx hb dX11_leave_8 (by decide) (fun h_ => absurd (by decide) h_) (fun _ => ?_)
    refine lv_aload_n hx hb dX11_leave_11 rfl (lv_at hl 0 rfl) ?_
    refine lv_iconst (v := (-1 : Int32)) hx hb dX11_leave_12 (by decide) ?_
    refine z_Vi C0 hP hD hA hS (As := [.int (-1 : Int32)]) (rest := []) (k := 0) (c_X11_refuse l E _ (-1 : Int32) 1 (by decide) (by decide) (by decide)) (cwV 1 hts (zgV zbw mlRX11_72 imX11_refuse seX11_refuse iniRX11 coX11_refuse) rfl rfl rfl (by decide +kernel) ⟨Nat.le_of_ble_eq_true rfl, Nat.le_of_ble_eq_true rfl⟩) (zk_lt (rfl : zk 0 = 9) (by decide)) (zd_9 E (rfl : zk 0 = 9) _) rfl rfl rfl hl.1 rfl (Nat.le_of_ble_eq_true rfl) dX11_leave_13 ⟨Nat.zero_le _, Nat.zero_le _⟩ (fun r8 G8 H locs hw8 hP hS => ?_)
    obtain ⟨rfl, rfl⟩ := hw8
    subst hQ_
    exact z_iret C0 hP hS (v := (-1 : Int32)) (by exact zQc_of (k := 1) (by simp [A_leave, hz_ia]) (fun k hk => g1_n (by omega)) (g1_s _ _ _) (z_plk (g1_n (by decide)) hp)) dX11_leave_16
set_option maxHeartbeats 4000000 in
set_option maxRecDepth 100000 in
theorem c_X12_leave (l : Launch) (E : zE) (G : zG) (r : Nat → Int32) (n na : Nat) (athlete what : Int32) (hM : G 93 = r) (hrn : r 0 = nI n) (hrna : r 1 = nI na) (hn10 : n ≤ 10) (hna : na ≤ 5) (hkd : zKd r n) (hV : zVr r n na) : zMi l yX12_leave wsX12_leave ({ frames := 6, cells := 0, slots := 0, locals := 142 } : Room) E G [.ref (E.1 92), .int athlete, .int what] (fun r1 G1 => zQm (A_leave r n na athlete what) G r1 G1) := by
  refine zOf (cc := cX12_leave) (nL := 8) (ret := (some .int)) RX12 (by decide) rfl rfl (Nat.le_of_ble_eq_true rfl) ?_
  intro p_ e_ s_ m_ a_ b_ me_ c_ ls C0 hP hS hl
  have hx := C0.1
  have hb := C0.2.1
  have hts := C0.2.2.2.2.1
  have hD : zD E (zA E s_.heap.size) := C0.2.2.2.2.2.2.2.2
  have hA : ∀ q : Nat, s_.heap.size ≤ q → zA E s_.heap.size q := fun q h => Or.inr h
  refine z_gen (fun Q_ hQ_ => ?_)
  have hl : lv_has ls 8 [(0, .ref (E.1 92)), (1, .int athlete), (2, .int what)] := hl
  refine lv_aload_n hx hb dX12_leave_0 rfl (lv_at hl 0 rfl) ?_
  refine lv_iload_n hx hb dX12_leave_1 rfl (lv_at hl 1 rfl) ?_
  refine z_Vi C0 hP hD hA hS (As := [.int athlete]) (rest := []) (k := 92) (c_X12_isAthlete l E _ na athlete ((congrFun (hM) _).trans (hrna)) (by omega)) (cwV 1 hts (zgV zbw mlRX12_136 imX12_isAthlete seX12_isAthlete iniRX12 coX12_isAthlete) rfl rfl rfl (by decide +kernel) ⟨Nat.le_of_ble_eq_true rfl, Nat.le_of_ble_eq_true rfl⟩) (zk_lt (rfl : zk 92 = 10) (by decide)) (zd_10 E (rfl : zk 92 = 10) _) rfl rfl rfl hl.1 rfl (Nat.le_of_ble_eq_true rfl) dX12_leave_2 ⟨Nat.zero_le _, Nat.zero_le _⟩ (fun r1 G1 H locs hw1 hP hS => ?_)
  rcases hw1 with ⟨rfl, rfl, ia, hia, rfl⟩ | ⟨rfl, rfl, hno1⟩
  · skip
    have hz_ia := zin_t hia (by omega)
    have hy_ia : zix (nI ia) = ia := zix_n (by omega)
    refine lv_if_ne (tgt := 14) hx hb dX12_leave_5 (by decide) (fun _ => ?_) (fun h_ => absurd h_ (by decide))
    refine lv_iload_n hx hb dX12_leave_14 rfl (lv_at hl 2 rfl) ?_
    refine lv_iconst (v := (0 : Int32)) hx hb dX12_leave_15 (by decide) ?_
    refine lv_iconst (v := (1 : Int32)) hx hb dX12_leave_16 (by decide) ?_
    refine z_Si C0 hP hD hA hS (As := [.int what, .int (0 : Int32), .int (1 : Int32)]) (rest := []) (c_X12_isIn l E _ what (0 : Int32) (1 : Int32)) (va_cwS 3 hts (zgS zbw mlRX12_62 stX12_isIn iniRX12 coX12_isIn) rfl rfl rfl (by decide +kernel) ⟨Nat.le_of_ble_eq_true rfl, Nat.le_of_ble_eq_true rfl⟩) rfl hl.1 rfl (Nat.le_of_ble_eq_true rfl) dX12_leave_17 ⟨Nat.zero_le _, Nat.zero_le _⟩ (fun r2 G2 H locs hw2 hP hS => ?_)
    rcases hw2 with ⟨rfl, rfl, hi1_2, hi2_2⟩ | ⟨rfl, rfl, hi0_2⟩
    · skip
      have hi3_2 := Int32.not_lt.mpr hi1_2
      have hi4_2 := Int32.not_lt.mpr hi2_2
      refine lv_if_ne (tgt := 30) hx hb dX12_leave_20 (by decide) (fun _ => ?_) (fun h_ => absurd h_ (by decide))
      refine lv_bipush (v := (-9 : Int32)) hx hb dX12_leave_30 (by decide) ?_
      refine lv_istore_n (lv' := [(3, .int (-9 : Int32)), (0, .ref (E.1 92)), (1, .int (nI ia)), (2, .int what)]) hx hb dX12_leave_32 rfl hl (by decide) rfl (fun ls hl => ?_)
      refine lv_ldc (v := (1000000000 : Int32)) hx hb C0.2.2.2.1 (hts _ (zm kkRX12_55)) dX12_leave_33 ?_
      refine lv_istore (lv' := [(4, .int (1000000000 : Int32)), (3, .int (-9 : Int32)), (0, .ref (E.1 92)), (1, .int (nI ia)), (2, .int what)]) hx hb dX12_leave_35 hl (by decide) rfl (fun ls hl => ?_)
      refine lv_iconst (v := (0 : Int32)) hx hb dX12_leave_37 (by decide) ?_
      refine lv_istore (lv' := [(5, .int (0 : Int32)), (4, .int (1000000000 : Int32)), (3, .int (-9 : Int32)), (0, .ref (E.1 92)), (1, .int (nI ia)), (2, .int what)]) hx hb dX12_leave_38 hl (by decide) rfl (fun ls hl => ?_)
      have cut_40 : ∀ (fuel : Nat), ∀ (i : Nat) (b z : Int32) (Gc : zG) (H : Heap) (locs : List Loc) (ls : Array Slot), (i ≤ n) → (∀ k, (k < 94 ∨ (94 < k ∧ k < 100) ∨ 102 < k) → Gc k = G k) → ((b, z) = b_min (q_lv r n ia) i) → zP E Gc H → va_S (zA E s_.heap.size) s_.heap H locs → lv_has ls 8 [(0, .ref (E.1 92)), (1, .int (nI ia)), (2, .int what), (3, .int z), (4, .int b), (5, .int (nI i))] → n - i < fuel → W p_ l e_ ({ frames := 6, cells := 0, slots := 0, locals := 142 } : Room) s_ m_ a_ b_ me_ c_ H locs 0 0 Q_ (F0 m_ 40 ls []) := by
        intro fuel
        induction fuel with
        | zero =>
          intro i  b z  Gc  H locs ls hin hFc hob hP hS hl hfu
          exact absurd hfu (Nat.not_lt_zero _)
        | succ fuel ih_40 =>
          intro i  b z  Gc  H locs ls hin hFc hob hP hS hl hfu_40
          refine lv_iload hx hb dX12_leave_40 (lv_at hl 5 rfl) ?_
          refine lv_aload_n hx hb dX12_leave_42 rfl (lv_at hl 0 rfl) ?_
          refine z_get C0 hP (C := RX12) (T := TX12) (N := 21) (ci := 10) (index := 9) (k := 92) (ref := "WetSuitPedalsShoesModel") (zk_lt (rfl : zk 92 = 10) (by decide)) (zd_10 E (rfl : zk 92 = 10) _) rfl (zmi inU_12) 0 (by decide) (zm flRX12_9) rfl (v := .ref (E.1 93)) (rfl) dX12_leave_43 ?_
          refine lv_iconst (v := (0 : Int32)) hx hb dX12_leave_46 (by decide) ?_
          refine z_iald C0 hP (k := 93) (i := 0) (v := (nI n)) (rfl : zk 93 = 11) (Nat.lt_of_lt_of_eq (show 0 < 102 by decide) (rfl : zl 93 = 102).symm) rfl dX12_leave_47 ((congrFun ((hFc _ (by decide)).trans (hM)) _).trans (hrn)) ?_
          refine z_N_ge hx hb (a := i) (b := n) (tgt := 192) dX12_leave_48 rfl rfl (by omega) (by omega) (by decide) (fun c_48 => ?_) (fun c_48 => ?_)
          · skip
            obtain ⟨e1, e2⟩ := b_min_end hob (show i = n by omega)
            refine lv_iload_n hx hb dX12_leave_192 rfl (lv_at hl 3 rfl) ?_
            refine lv_if_lt (tgt := 200) hx hb dX12_leave_193 (by decide) (fun c_193 => ?_) (fun c_193 => ?_)
            · skip
              refine lv_iload_n hx hb dX12_leave_200 rfl (lv_at hl 3 rfl) ?_
              refine lv_goto (tgt := 206) hx hb dX12_leave_201 (by decide) ?_
              subst hQ_
              exact z_iret C0 hP hS (v := z) (by exact zQm_of (k := 0) (by simp [A_leave, hz_ia, hy_ia, hi3_2, hi4_2, c_48, e1, e2, c_193]) (fun k hk => hFc k (by omega)) (hFc _ (by decide))) dX12_leave_206
            · skip
              refine lv_iload_n hx hb dX12_leave_196 rfl (lv_at hl 2 rfl) ?_
              refine lv_if_ne (tgt := 204) hx hb dX12_leave_197 (by decide) (fun c_197 => ?_) (fun c_197 => ?_)
              · skip
                refine lv_iload hx hb dX12_leave_204 (lv_at hl 4 rfl) ?_
                subst hQ_
                exact z_iret C0 hP hS (v := b) (by exact zQm_of (k := 0) (by simp [A_leave, hz_ia, hy_ia, hi3_2, hi4_2, c_48, e1, e2, c_193, c_197]) (fun k hk => hFc k (by omega)) (hFc _ (by decide))) dX12_leave_206
              · skip
                refine lv_iload_n hx hb dX12_leave_200 rfl (lv_at hl 3 rfl) ?_
                refine lv_goto (tgt := 206) hx hb dX12_leave_201 (by decide) ?_
                subst hQ_
                exact z_iret C0 hP hS (v := z) (by exact zQm_of (k := 0) (by simp [A_leave, hz_ia, hy_ia, hi3_2, hi4_2, c_48, e1, e2, c_193, c_197]) (fun k hk => hFc k (by omega)) (hFc _ (by decide))) dX12_leave_206
          · skip
            refine lv_aload_n hx hb dX12_leave_51 rfl (lv_at hl 0 rfl) ?_
            refine z_get C0 hP (C := RX12) (T := TX12) (N := 21) (ci := 10) (index := 9) (k := 92) (ref := "WetSuitPedalsShoesModel") (zk_lt (rfl : zk 92 = 10) (by decide)) (zd_10 E (rfl : zk 92 = 10) _) rfl (zmi inU_12) 0 (by decide) (zm flRX12_9) rfl (v := .ref (E.1 93)) (rfl) dX12_leave_52 ?_
            refine lv_aload_n hx hb dX12_leave_55 rfl (lv_at hl 0 rfl) ?_
            refine z_get C0 hP (C := RX12) (T := TX12) (N := 21) (ci := 10) (index := 13) (k := 92) (ref := "WetSuitPedalsShoesModel") (zk_lt (rfl : zk 92 = 10) (by decide)) (zd_10 E (rfl : zk 92 = 10) _) rfl (zmi inU_12) 1 (by decide) (zm flRX12_13) rfl (v := .ref (E.1 94)) (rfl) dX12_leave_56 ?_
            refine z_Sv C0 hP hD hA hS (As := [.ref (E.1 93), .ref (E.1 94)]) (rest := []) (c_X12_lays l E _ 93 94 z_lit_Arr102_93 z_lit_Arr102_94 (by decide)) (va_cwS 2 hts (zgS zbw mlRX12_149 stX12_lays iniRX12 coX12_lays) rfl rfl rfl (by decide +kernel) ⟨Nat.le_of_ble_eq_true rfl, Nat.le_of_ble_eq_true rfl⟩) rfl hl.1 rfl (Nat.le_of_ble_eq_true rfl) dX12_leave_59 ⟨Nat.zero_le _, Nat.zero_le _⟩ (fun G3 H locs hw3 hP hS => ?_)
            obtain ⟨hF3, hcp3⟩ := hw3
            refine lv_aload_n hx hb dX12_leave_62 rfl (lv_at hl 0 rfl) ?_
            refine z_get C0 hP (C := RX12) (T := TX12) (N := 21) (ci := 10) (index := 13) (k := 92) (ref := "WetSuitPedalsShoesModel") (zk_lt (rfl : zk 92 = 10) (by decide)) (zd_10 E (rfl : zk 92 = 10) _) rfl (zmi inU_12) 1 (by decide) (zm flRX12_13) rfl (v := .ref (E.1 94)) (rfl) dX12_leave_63 ?_
            refine lv_iconst (v := (0 : Int32)) hx hb dX12_leave_66 (by decide) ?_
            refine lv_dup2_11 hx hb dX12_leave_67 rfl rfl ?_
            refine z_iald C0 hP (k := 94) (i := 0) (v := (nI n)) (rfl : zk 94 = 11) (Nat.lt_of_lt_of_eq (show 0 < 102 by decide) (rfl : zl 94 = 102).symm) rfl dX12_leave_68 (((hcp3 0 (by omega)).trans (congrFun ((hFc _ (by decide)).trans (hM)) _)).trans (hrn)) ?_
            refine lv_iconst (v := (1 : Int32)) hx hb dX12_leave_69 (by decide) ?_
            refine z_isub hx hb (a := n) (b := 1) (n := n - 1) dX12_leave_70 rfl rfl (by omega) (by omega) ?_
            refine z_iast C0 hP hD hS (k := 94) (i := 0) (v := (nI (n - 1))) (F := G3 94) (rfl) (rfl : zk 94 = 11) (Nat.lt_of_lt_of_eq (show 0 < 102 by decide) (rfl : zl 94 = 102).symm) rfl dX12_leave_71 (fun H locs hP hS => ?_)
            refine lv_iload hx hb dX12_leave_72 (lv_at hl 5 rfl) ?_
            refine lv_istore (lv' := [(6, .int (nI i)), (0, .ref (E.1 92)), (1, .int (nI ia)), (2, .int what), (3, .int z), (4, .int b), (5, .int (nI i))]) hx hb dX12_leave_74 hl (by decide) rfl (fun ls hl => ?_)
            have cut_76 : ∀ (fuel : Nat), ∀ (k : Nat) (f : Nat → Int32) (H : Heap) (locs : List Loc) (ls : Array Slot), (i ≤ k ∧ k ≤ n - 1) → (∀ j, j < 102 → f j = s_lv r ia i k j) → zP E (g1 G3 94 f) H → va_S (zA E s_.heap.size) s_.heap H locs → lv_has ls 8 [(0, .ref (E.1 92)), (1, .int (nI ia)), (2, .int what), (3, .int z), (4, .int b), (5, .int (nI i)), (6, .int (nI k))] → n - k < fuel → W p_ l e_ ({ frames := 6, cells := 0, slots := 0, locals := 142 } : Room) s_ m_ a_ b_ me_ c_ H locs 0 0 Q_ (F0 m_ 76 ls []) := by
              intro fuel
              induction fuel with
              | zero =>
                intro k  f  H locs ls hik hf hP hS hl hfu
                exact absurd hfu (Nat.not_lt_zero _)
              | succ fuel ih_76 =>
                intro k  f  H locs ls hik hf hP hS hl hfu_76
                refine lv_iload hx hb dX12_leave_76 (lv_at hl 6 rfl) ?_
                refine lv_aload_n hx hb dX12_leave_78 rfl (lv_at hl 0 rfl) ?_
                refine z_get C0 hP (C := RX12) (T := TX12) (N := 21) (ci := 10) (index := 13) (k := 92) (ref := "WetSuitPedalsShoesModel") (zk_lt (rfl : zk 92 = 10) (by decide)) (zd_10 E (rfl : zk 92 = 10) _) rfl (zmi inU_12) 1 (by decide) (zm flRX12_13) rfl (v := .ref (E.1 94)) (rfl) dX12_leave_79 ?_
                refine lv_iconst (v := (0 : Int32)) hx hb dX12_leave_82 (by decide) ?_
                refine z_iald C0 hP (k := 94) (i := 0) (v := (nI (n - 1))) (rfl : zk 94 = 11) (Nat.lt_of_lt_of_eq (show 0 < 102 by decide) (rfl : zl 94 = 102).symm) rfl dX12_leave_83 ((congrFun (g1_s _ _ _) _).trans ((hf 0 (by decide)).trans (s_lv_n hrn (by omega)))) ?_
                refine z_N_ge hx hb (a := k) (b := n - 1) (tgt := 158) dX12_leave_84 rfl rfl (by omega) (by omega) (by decide) (fun c_84 => ?_) (fun c_84 => ?_)
                · skip
                  refine lv_aload_n hx hb dX12_leave_158 rfl (lv_at hl 0 rfl) ?_
                  refine lv_aload_n hx hb dX12_leave_159 rfl (lv_at hl 0 rfl) ?_
                  refine z_get C0 hP (C := RX12) (T := TX12) (N := 21) (ci := 10) (index := 13) (k := 92) (ref := "WetSuitPedalsShoesModel") (zk_lt (rfl : zk 92 = 10) (by decide)) (zd_10 E (rfl : zk 92 = 10) _) rfl (zmi inU_12) 1 (by decide) (zm flRX12_13) rfl (v := .ref (E.1 94)) (rfl) dX12_leave_160 ?_
                  refine lv_iload_n hx hb dX12_leave_163 rfl (lv_at hl 1 rfl) ?_
                  refine z_Vi C0 hP hD hA hS (As := [.ref (E.1 94), .int (nI ia)]) (rest := []) (k := 92) (c_X12_finishOf l E _ 94 ia (n - 1) z_lit_Arr102_94 (by omega) ((congrFun (g1_s _ _ _) _).trans ((hf 0 (by decide)).trans (s_lv_n hrn (by omega)))) (by omega) (by omega)) (cwV 2 hts (zgV zbw mlRX12_156 imX12_finishOf seX12_finishOf iniRX12 coX12_finishOf) rfl rfl rfl (by decide +kernel) ⟨Nat.le_of_ble_eq_true rfl, Nat.le_of_ble_eq_true rfl⟩) (zk_lt (rfl : zk 92 = 10) (by decide)) (zd_10 E (rfl : zk 92 = 10) _) rfl rfl rfl hl.1 rfl (Nat.le_of_ble_eq_true rfl) dX12_leave_164 ⟨Nat.zero_le _, Nat.zero_le _⟩ (fun r4 G4 H locs hw4 hP hS => ?_)
                  obtain ⟨hr4, hF4, hrow4⟩ := hw4
                  rw [show (g1 G3 94 f) 94 = f from g1_s _ _ _] at hr4
                  have hr4 : q_lv r n ia i = _ := (q_lv_c hf (by omega) (by omega) hn10).symm.trans hr4
                  subst hr4
                  refine lv_istore (lv' := [(6, .int (q_lv r n ia i)), (0, .ref (E.1 92)), (1, .int (nI ia)), (2, .int what), (3, .int z), (4, .int b), (5, .int (nI i))]) hx hb dX12_leave_167 hl (by decide) rfl (fun ls hl => ?_)
                  refine lv_iload hx hb dX12_leave_169 (lv_at hl 0 rfl) ?_
                  refine lv_iload hx hb dX12_leave_171 (lv_at hl 5 rfl) ?_
                  refine lv_icmp_lt (tgt := 179) hx hb dX12_leave_173 (by decide) (fun c_173 => ?_) (fun c_173 => ?_)
                  · skip
                    have hob := b_min_y hob c_173
                    refine lv_iload hx hb dX12_leave_179 (lv_at hl 6 rfl) ?_
                    refine lv_istore_n (lv' := [(3, .int (nI i)), (6, .int (q_lv r n ia i)), (0, .ref (E.1 92)), (1, .int (nI ia)), (2, .int what), (4, .int b), (5, .int (nI i))]) hx hb dX12_leave_181 rfl hl (by decide) rfl (fun ls hl => ?_)
                    refine lv_iload hx hb dX12_leave_182 (lv_at hl 1 rfl) ?_
                    refine lv_istore (lv' := [(4, .int (q_lv r n ia i)), (3, .int (nI i)), (6, .int (q_lv r n ia i)), (0, .ref (E.1 92)), (1, .int (nI ia)), (2, .int what), (5, .int (nI i))]) hx hb dX12_leave_184 hl (by decide) rfl (fun ls hl => ?_)
                    refine lv_iinc (v := (nI (i + 1))) (lv' := [(5, .int (nI (i + 1))), (4, .int (q_lv r n ia i)), (3, .int (nI i)), (6, .int (q_lv r n ia i)), (0, .ref (E.1 92)), (1, .int (nI ia)), (2, .int what)]) hx hb dX12_leave_186 hl (k := 6) rfl (z_inc (by decide)) (by decide) rfl (fun ls hl => ?_)
                    refine lv_goto (tgt := 40) hx hb dX12_leave_189 (by decide) ?_
                    exact ih_40 (i + 1) (q_lv r n ia i) (nI i) G4 _ _ _ (by first | assumption | omega) (by exact fun k hk => (hF4 k (by omega)).trans ((g1_n (by omega)).trans ((hF3 k (by omega)).trans (hFc k (by omega))))) (by exact hob) hP hS (lv_sub hl [4, 5, 6, 2, 1, 0] rfl) (by omega)
                  · skip
                    have hob := b_min_n hob c_173
                    refine lv_goto (tgt := 186) hx hb dX12_leave_176 (by decide) ?_
                    refine lv_iinc (v := (nI (i + 1))) (lv' := [(5, .int (nI (i + 1))), (6, .int (q_lv r n ia i)), (0, .ref (E.1 92)), (1, .int (nI ia)), (2, .int what), (3, .int z), (4, .int b)]) hx hb dX12_leave_186 hl (k := 6) rfl (z_inc (by decide)) (by decide) rfl (fun ls hl => ?_)
                    refine lv_goto (tgt := 40) hx hb dX12_leave_189 (by decide) ?_
                    exact ih_40 (i + 1) b z G4 _ _ _ (by first | assumption | omega) (by exact fun k hk => (hF4 k (by omega)).trans ((g1_n (by omega)).trans ((hF3 k (by omega)).trans (hFc k (by omega))))) (by exact hob) hP hS (lv_sub hl [2, 3, 4, 5, 6, 0] rfl) (by omega)
                · skip
                  refine lv_iconst (v := (0 : Int32)) hx hb dX12_leave_87 (by decide) ?_
                  refine lv_istore (lv' := [(7, .int (0 : Int32)), (0, .ref (E.1 92)), (1, .int (nI ia)), (2, .int what), (3, .int z), (4, .int b), (5, .int (nI i)), (6, .int (nI k))]) hx hb dX12_leave_88 hl (by decide) rfl (fun ls hl => ?_)
                  refine lv_iload hx hb dX12_leave_90 (lv_at hl 0 rfl) ?_
                  refine lv_iconst (v := (3 : Int32)) hx hb dX12_leave_92 (by decide) ?_
                  refine lv_icmp_ge (tgt := 128) hx hb dX12_leave_93 (by decide) (fun h_ => absurd h_ (by decide)) (fun _ => ?_)
                  refine lv_aload_n hx hb dX12_leave_96 rfl (lv_at hl 1 rfl) ?_
                  refine z_get C0 hP (C := RX12) (T := TX12) (N := 21) (ci := 10) (index := 13) (k := 92) (ref := "WetSuitPedalsShoesModel") (zk_lt (rfl : zk 92 = 10) (by decide)) (zd_10 E (rfl : zk 92 = 10) _) rfl (zmi inU_12) 1 (by decide) (zm flRX12_13) rfl (v := .ref (E.1 94)) (rfl) dX12_leave_97 ?_
                  refine lv_iload hx hb dX12_leave_100 (lv_at hl 7 rfl) ?_
                  refine lv_iload hx hb dX12_leave_102 (lv_at hl 0 rfl) ?_
                  refine z_Si C0 hP hD hA hS (As := [.int (nI k), .int (0 : Int32)]) (rest := [.ref (E.1 94)]) (c_X12_of l E _ k 0) (va_cwS 2 hts (zgS zbw mlRX12_66 stX12_of iniRX12 coX12_of) rfl rfl rfl (by decide +kernel) ⟨Nat.le_of_ble_eq_true rfl, Nat.le_of_ble_eq_true rfl⟩) rfl hl.1 rfl (Nat.le_of_ble_eq_true rfl) dX12_leave_104 ⟨Nat.zero_le _, Nat.zero_le _⟩ (fun r5 G5 H locs hw5 hP hS => ?_)
                  obtain ⟨hr5, rfl⟩ := hw5
                  subst hr5
                  refine z_eqi (y := (nI (2 + 3 * k))) (congrArg nI (by omega)) ?_
                  refine lv_aload_n hx hb dX12_leave_107 rfl (lv_at hl 1 rfl) ?_
                  refine z_get C0 hP (C := RX12) (T := TX12) (N := 21) (ci := 10) (index := 9) (k := 92) (ref := "WetSuitPedalsShoesModel") (zk_lt (rfl : zk 92 = 10) (by decide)) (zd_10 E (rfl : zk 92 = 10) _) rfl (zmi inU_12) 0 (by decide) (zm flRX12_9) rfl (v := .ref (E.1 93)) (rfl) dX12_leave_108 ?_
                  refine lv_iload hx hb dX12_leave_111 (lv_at hl 7 rfl) ?_
                  refine lv_iconst (v := (1 : Int32)) hx hb dX12_leave_113 (by decide) ?_
                  refine z_iadd hx hb (a := k) (b := 1) (n := k + 1) dX12_leave_114 rfl rfl rfl ?_
                  refine lv_iload hx hb dX12_leave_115 (lv_at hl 0 rfl) ?_
                  refine z_Si C0 hP hD hA hS (As := [.int (nI (k + 1)), .int (0 : Int32)]) (rest := [.ref (E.1 93), .int (nI (2 + 3 * k)), .ref (E.1 94)]) (c_X12_of l E _ (k + 1) 0) (va_cwS 2 hts (zgS zbw mlRX12_66 stX12_of iniRX12 coX12_of) rfl rfl rfl (by decide +kernel) ⟨Nat.le_of_ble_eq_true rfl, Nat.le_of_ble_eq_true rfl⟩) rfl hl.1 rfl (Nat.le_of_ble_eq_true rfl) dX12_leave_117 ⟨Nat.zero_le _, Nat.zero_le _⟩ (fun r6 G6 H locs hw6 hP hS => ?_)
                  obtain ⟨hr6, rfl⟩ := hw6
                  subst hr6
                  refine z_eqi (y := (nI (2 + 3 * (k + 1)))) (congrArg nI (by omega)) ?_
                  refine z_iald C0 hP (k := 93) (i := 2 + 3 * (k + 1)) (v := (r (2 + 3 * (k + 1)))) (rfl : zk 93 = 11) (Nat.lt_of_lt_of_eq (show 2 + 3 * (k + 1) < 102 by omega) (rfl : zl 93 = 102).symm) rfl dX12_leave_120 (congrFun ((g1_n (by decide)).trans ((hF3 _ (by decide)).trans ((hFc _ (by decide)).trans (hM)))) _) ?_
                  refine z_iast C0 hP hD hS (k := 94) (i := 2 + 3 * k) (v := (r (2 + 3 * (k + 1)))) (F := f) (g1_s _ _ _) (rfl : zk 94 = 11) (Nat.lt_of_lt_of_eq (show 2 + 3 * k < 102 by omega) (rfl : zl 94 = 102).symm) rfl dX12_leave_121 (fun H locs hP hS => ?_)
                  have hP := zP_eq (g1_t _ _ _ _ : _ = (g1 G3 94 (upd f (2 + 3 * k) (r (2 + 3 * (k + 1)))))) hP
                  refine lv_iinc (v := (1 : Int32)) (lv' := [(7, .int (1 : Int32)), (0, .ref (E.1 92)), (1, .int (nI ia)), (2, .int what), (3, .int z), (4, .int b), (5, .int (nI i)), (6, .int (nI k))]) hx hb dX12_leave_122 hl (k := 0) rfl (by decide) (by decide) rfl (fun ls hl => ?_)
                  refine lv_goto (tgt := 90) hx hb dX12_leave_125 (by decide) ?_
                  refine lv_iload hx hb dX12_leave_90 (lv_at hl 0 rfl) ?_
                  refine lv_iconst (v := (3 : Int32)) hx hb dX12_leave_92 (by decide) ?_
                  refine lv_icmp_ge (tgt := 128) hx hb dX12_leave_93 (by decide) (fun h_ => absurd h_ (by decide)) (fun _ => ?_)
                  refine lv_aload_n hx hb dX12_leave_96 rfl (lv_at hl 1 rfl) ?_
                  refine z_get C0 hP (C := RX12) (T := TX12) (N := 21) (ci := 10) (index := 13) (k := 92) (ref := "WetSuitPedalsShoesModel") (zk_lt (rfl : zk 92 = 10) (by decide)) (zd_10 E (rfl : zk 92 = 10) _) rfl (zmi inU_12) 1 (by decide) (zm flRX12_13) rfl (v := .ref (E.1 94)) (rfl) dX12_leave_97 ?_
                  refine lv_iload hx hb dX12_leave_100 (lv_at hl 7 rfl) ?_
                  refine lv_iload hx hb dX12_leave_102 (lv_at hl 0 rfl) ?_
                  refine z_Si C0 hP hD hA hS (As := [.int (nI k), .int (1 : Int32)]) (rest := [.ref (E.1 94)]) (c_X12_of l E _ k 1) (va_cwS 2 hts (zgS zbw mlRX12_66 stX12_of iniRX12 coX12_of) rfl rfl rfl (by decide +kernel) ⟨Nat.le_of_ble_eq_true rfl, Nat.le_of_ble_eq_true rfl⟩) rfl hl.1 rfl (Nat.le_of_ble_eq_true rfl) dX12_leave_104 ⟨Nat.zero_le _, Nat.zero_le _⟩ (fun r7 G7 H locs hw7 hP hS => ?_)
                  obtain ⟨hr7, rfl⟩ := hw7
                  subst hr7
                  refine z_eqi (y := (nI (3 + 3 * k))) (congrArg nI (by omega)) ?_
                  refine lv_aload_n hx hb dX12_leave_107 rfl (lv_at hl 1 rfl) ?_
                  refine z_get C0 hP (C := RX12) (T := TX12) (N := 21) (ci := 10) (index := 9) (k := 92) (ref := "WetSuitPedalsShoesModel") (zk_lt (rfl : zk 92 = 10) (by decide)) (zd_10 E (rfl : zk 92 = 10) _) rfl (zmi inU_12) 0 (by decide) (zm flRX12_9) rfl (v := .ref (E.1 93)) (rfl) dX12_leave_108 ?_
                  refine lv_iload hx hb dX12_leave_111 (lv_at hl 7 rfl) ?_
                  refine lv_iconst (v := (1 : Int32)) hx hb dX12_leave_113 (by decide) ?_
                  refine z_iadd hx hb (a := k) (b := 1) (n := k + 1) dX12_leave_114 rfl rfl rfl ?_
                  refine lv_iload hx hb dX12_leave_115 (lv_at hl 0 rfl) ?_
                  refine z_Si C0 hP hD hA hS (As := [.int (nI (k + 1)), .int (1 : Int32)]) (rest := [.ref (E.1 93), .int (nI (3 + 3 * k)), .ref (E.1 94)]) (c_X12_of l E _ (k + 1) 1) (va_cwS 2 hts (zgS zbw mlRX12_66 stX12_of iniRX12 coX12_of) rfl rfl rfl (by decide +kernel) ⟨Nat.le_of_ble_eq_true rfl, Nat.le_of_ble_eq_true rfl⟩) rfl hl.1 rfl (Nat.le_of_ble_eq_true rfl) dX12_leave_117 ⟨Nat.zero_le _, Nat.zero_le _⟩ (fun r8 G8 H locs hw8 hP hS => ?_)
                  obtain ⟨hr8, rfl⟩ := hw8
                  subst hr8
                  refine z_eqi (y := (nI (3 + 3 * (k + 1)))) (congrArg nI (by omega)) ?_
                  refine z_iald C0 hP (k := 93) (i := 3 + 3 * (k + 1)) (v := (r (3 + 3 * (k + 1)))) (rfl : zk 93 = 11) (Nat.lt_of_lt_of_eq (show 3 + 3 * (k + 1) < 102 by omega) (rfl : zl 93 = 102).symm) rfl dX12_leave_120 (congrFun ((g1_n (by decide)).trans ((hF3 _ (by decide)).trans ((hFc _ (by decide)).trans (hM)))) _) ?_
                  refine z_iast C0 hP hD hS (k := 94) (i := 3 + 3 * k) (v := (r (3 + 3 * (k + 1)))) (F := (upd f (2 + 3 * k) (r (2 + 3 * (k + 1))))) (g1_s _ _ _) (rfl : zk 94 = 11) (Nat.lt_of_lt_of_eq (show 3 + 3 * k < 102 by omega) (rfl : zl 94 = 102).symm) rfl dX12_leave_121 (fun H locs hP hS => ?_)
                  have hP := zP_eq (g1_t _ _ _ _ : _ = (g1 G3 94 (upd (upd f (2 + 3 * k) (r (2 + 3 * (k + 1)))) (3 + 3 * k) (r (3 + 3 * (k + 1)))))) hP
                  refine lv_iinc (v := (2 : Int32)) (lv' := [(7, .int (2 : Int32)), (0, .ref (E.1 92)), (1, .int (nI ia)), (2, .int what), (3, .int z), (4, .int b), (5, .int (nI i)), (6, .int (nI k))]) hx hb dX12_leave_122 hl (k := 0) rfl (by decide) (by decide) rfl (fun ls hl => ?_)
                  refine lv_goto (tgt := 90) hx hb dX12_leave_125 (by decide) ?_
                  refine lv_iload hx hb dX12_leave_90 (lv_at hl 0 rfl) ?_
                  refine lv_iconst (v := (3 : Int32)) hx hb dX12_leave_92 (by decide) ?_
                  refine lv_icmp_ge (tgt := 128) hx hb dX12_leave_93 (by decide) (fun h_ => absurd h_ (by decide)) (fun _ => ?_)
                  refine lv_aload_n hx hb dX12_leave_96 rfl (lv_at hl 1 rfl) ?_
                  refine z_get C0 hP (C := RX12) (T := TX12) (N := 21) (ci := 10) (index := 13) (k := 92) (ref := "WetSuitPedalsShoesModel") (zk_lt (rfl : zk 92 = 10) (by decide)) (zd_10 E (rfl : zk 92 = 10) _) rfl (zmi inU_12) 1 (by decide) (zm flRX12_13) rfl (v := .ref (E.1 94)) (rfl) dX12_leave_97 ?_
                  refine lv_iload hx hb dX12_leave_100 (lv_at hl 7 rfl) ?_
                  refine lv_iload hx hb dX12_leave_102 (lv_at hl 0 rfl) ?_
                  refine z_Si C0 hP hD hA hS (As := [.int (nI k), .int (2 : Int32)]) (rest := [.ref (E.1 94)]) (c_X12_of l E _ k 2) (va_cwS 2 hts (zgS zbw mlRX12_66 stX12_of iniRX12 coX12_of) rfl rfl rfl (by decide +kernel) ⟨Nat.le_of_ble_eq_true rfl, Nat.le_of_ble_eq_true rfl⟩) rfl hl.1 rfl (Nat.le_of_ble_eq_true rfl) dX12_leave_104 ⟨Nat.zero_le _, Nat.zero_le _⟩ (fun r9 G9 H locs hw9 hP hS => ?_)
                  obtain ⟨hr9, rfl⟩ := hw9
                  subst hr9
                  refine z_eqi (y := (nI (4 + 3 * k))) (congrArg nI (by omega)) ?_
                  refine lv_aload_n hx hb dX12_leave_107 rfl (lv_at hl 1 rfl) ?_
                  refine z_get C0 hP (C := RX12) (T := TX12) (N := 21) (ci := 10) (index := 9) (k := 92) (ref := "WetSuitPedalsShoesModel") (zk_lt (rfl : zk 92 = 10) (by decide)) (zd_10 E (rfl : zk 92 = 10) _) rfl (zmi inU_12) 0 (by decide) (zm flRX12_9) rfl (v := .ref (E.1 93)) (rfl) dX12_leave_108 ?_
                  refine lv_iload hx hb dX12_leave_111 (lv_at hl 7 rfl) ?_
                  refine lv_iconst (v := (1 : Int32)) hx hb dX12_leave_113 (by decide) ?_
                  refine z_iadd hx hb (a := k) (b := 1) (n := k + 1) dX12_leave_114 rfl rfl rfl ?_
                  refine lv_iload hx hb dX12_leave_115 (lv_at hl 0 rfl) ?_
                  refine z_Si C0 hP hD hA hS (As := [.int (nI (k + 1)), .int (2 : Int32)]) (rest := [.ref (E.1 93), .int (nI (4 + 3 * k)), .ref (E.1 94)]) (c_X12_of l E _ (k + 1) 2) (va_cwS 2 hts (zgS zbw mlRX12_66 stX12_of iniRX12 coX12_of) rfl rfl rfl (by decide +kernel) ⟨Nat.le_of_ble_eq_true rfl, Nat.le_of_ble_eq_true rfl⟩) rfl hl.1 rfl (Nat.le_of_ble_eq_true rfl) dX12_leave_117 ⟨Nat.zero_le _, Nat.zero_le _⟩ (fun r10 G10 H locs hw10 hP hS => ?_)
                  obtain ⟨hr10, rfl⟩ := hw10
                  subst hr10
                  refine z_eqi (y := (nI (4 + 3 * (k + 1)))) (congrArg nI (by omega)) ?_
                  refine z_iald C0 hP (k := 93) (i := 4 + 3 * (k + 1)) (v := (r (4 + 3 * (k + 1)))) (rfl : zk 93 = 11) (Nat.lt_of_lt_of_eq (show 4 + 3 * (k + 1) < 102 by omega) (rfl : zl 93 = 102).symm) rfl dX12_leave_120 (congrFun ((g1_n (by decide)).trans ((hF3 _ (by decide)).trans ((hFc _ (by decide)).trans (hM)))) _) ?_
                  refine z_iast C0 hP hD hS (k := 94) (i := 4 + 3 * k) (v := (r (4 + 3 * (k + 1)))) (F := (upd (upd f (2 + 3 * k) (r (2 + 3 * (k + 1)))) (3 + 3 * k) (r (3 + 3 * (k + 1))))) (g1_s _ _ _) (rfl : zk 94 = 11) (Nat.lt_of_lt_of_eq (show 4 + 3 * k < 102 by omega) (rfl : zl 94 = 102).symm) rfl dX12_leave_121 (fun H locs hP hS => ?_)
                  have hP := zP_eq (g1_t _ _ _ _ : _ = (g1 G3 94 (upd (upd (upd f (2 + 3 * k) (r (2 + 3 * (k + 1)))) (3 + 3 * k) (r (3 + 3 * (k + 1)))) (4 + 3 * k) (r (4 + 3 * (k + 1)))))) hP
                  refine lv_iinc (v := (3 : Int32)) (lv' := [(7, .int (3 : Int32)), (0, .ref (E.1 92)), (1, .int (nI ia)), (2, .int what), (3, .int z), (4, .int b), (5, .int (nI i)), (6, .int (nI k))]) hx hb dX12_leave_122 hl (k := 0) rfl (by decide) (by decide) rfl (fun ls hl => ?_)
                  refine lv_goto (tgt := 90) hx hb dX12_leave_125 (by decide) ?_
                  refine lv_iload hx hb dX12_leave_90 (lv_at hl 0 rfl) ?_
                  refine lv_iconst (v := (3 : Int32)) hx hb dX12_leave_92 (by decide) ?_
                  refine lv_icmp_ge (tgt := 128) hx hb dX12_leave_93 (by decide) (fun _ => ?_) (fun h_ => absurd (by decide) h_)
                  refine lv_aload_n hx hb dX12_leave_128 rfl (lv_at hl 1 rfl) ?_
                  refine z_get C0 hP (C := RX12) (T := TX12) (N := 21) (ci := 10) (index := 13) (k := 92) (ref := "WetSuitPedalsShoesModel") (zk_lt (rfl : zk 92 = 10) (by decide)) (zd_10 E (rfl : zk 92 = 10) _) rfl (zmi inU_12) 1 (by decide) (zm flRX12_13) rfl (v := .ref (E.1 94)) (rfl) dX12_leave_129 ?_
                  refine lv_iload_n hx hb dX12_leave_132 rfl (lv_at hl 2 rfl) ?_
                  refine lv_iload hx hb dX12_leave_133 (lv_at hl 7 rfl) ?_
                  refine z_Si C0 hP hD hA hS (As := [.int (nI ia), .int (nI k)]) (rest := [.ref (E.1 94)]) (c_X12_tried l E _ ia k) (va_cwS 2 hts (zgS zbw mlRX12_91 stX12_tried iniRX12 coX12_tried) rfl rfl rfl (by decide +kernel) ⟨Nat.le_of_ble_eq_true rfl, Nat.le_of_ble_eq_true rfl⟩) rfl hl.1 rfl (Nat.le_of_ble_eq_true rfl) dX12_leave_135 ⟨Nat.zero_le _, Nat.zero_le _⟩ (fun r11 G11 H locs hw11 hP hS => ?_)
                  obtain ⟨hr11, rfl⟩ := hw11
                  subst hr11
                  refine z_eqi (y := (nI (52 + 10 * ia + k))) (congrArg nI (by omega)) ?_
                  refine lv_aload_n hx hb dX12_leave_138 rfl (lv_at hl 1 rfl) ?_
                  refine z_get C0 hP (C := RX12) (T := TX12) (N := 21) (ci := 10) (index := 9) (k := 92) (ref := "WetSuitPedalsShoesModel") (zk_lt (rfl : zk 92 = 10) (by decide)) (zd_10 E (rfl : zk 92 = 10) _) rfl (zmi inU_12) 0 (by decide) (zm flRX12_9) rfl (v := .ref (E.1 93)) (rfl) dX12_leave_139 ?_
                  refine lv_iload_n hx hb dX12_leave_142 rfl (lv_at hl 2 rfl) ?_
                  refine lv_iload hx hb dX12_leave_143 (lv_at hl 7 rfl) ?_
                  refine lv_iconst (v := (1 : Int32)) hx hb dX12_leave_145 (by decide) ?_
                  refine z_iadd hx hb (a := k) (b := 1) (n := k + 1) dX12_leave_146 rfl rfl rfl ?_
                  refine z_Si C0 hP hD hA hS (As := [.int (nI ia), .int (nI (k + 1))]) (rest := [.ref (E.1 93), .int (nI (52 + 10 * ia + k)), .ref (E.1 94)]) (c_X12_tried l E _ ia (k + 1)) (va_cwS 2 hts (zgS zbw mlRX12_91 stX12_tried iniRX12 coX12_tried) rfl rfl rfl (by decide +kernel) ⟨Nat.le_of_ble_eq_true rfl, Nat.le_of_ble_eq_true rfl⟩) rfl hl.1 rfl (Nat.le_of_ble_eq_true rfl) dX12_leave_147 ⟨Nat.zero_le _, Nat.zero_le _⟩ (fun r12 G12 H locs hw12 hP hS => ?_)
                  obtain ⟨hr12, rfl⟩ := hw12
                  subst hr12
                  refine z_eqi (y := (nI (52 + 10 * ia + (k + 1)))) (congrArg nI (by omega)) ?_
                  refine z_iald C0 hP (k := 93) (i := 52 + 10 * ia + (k + 1)) (v := (r (52 + 10 * ia + (k + 1)))) (rfl : zk 93 = 11) (Nat.lt_of_lt_of_eq (show 52 + 10 * ia + (k + 1) < 102 by omega) (rfl : zl 93 = 102).symm) rfl dX12_leave_150 (congrFun ((g1_n (by decide)).trans ((hF3 _ (by decide)).trans ((hFc _ (by decide)).trans (hM)))) _) ?_
                  refine z_iast C0 hP hD hS (k := 94) (i := 52 + 10 * ia + k) (v := (r (52 + 10 * ia + (k + 1)))) (F := (upd (upd (upd f (2 + 3 * k) (r (2 + 3 * (k + 1)))) (3 + 3 * k) (r (3 + 3 * (k + 1)))) (4 + 3 * k) (r (4 + 3 * (k + 1))))) (g1_s _ _ _) (rfl : zk 94 = 11) (Nat.lt_of_lt_of_eq (show 52 + 10 * ia + k < 102 by omega) (rfl : zl 94 = 102).symm) rfl dX12_leave_151 (fun H locs hP hS => ?_)
                  have hP := zP_eq (g1_t _ _ _ _ : _ = (g1 G3 94 (upd (upd (upd (upd f (2 + 3 * k) (r (2 + 3 * (k + 1)))) (3 + 3 * k) (r (3 + 3 * (k + 1)))) (4 + 3 * k) (r (4 + 3 * (k + 1)))) (52 + 10 * ia + k) (r (52 + 10 * ia + (k + 1)))))) hP
                  refine lv_iinc (v := (nI (k + 1))) (lv' := [(6, .int (nI (k + 1))), (7, .int (3 : Int32)), (0, .ref (E.1 92)), (1, .int (nI ia)), (2, .int what), (3, .int z), (4, .int b), (5, .int (nI i))]) hx hb dX12_leave_152 hl (k := 7) rfl (z_inc (by decide)) (by decide) rfl (fun ls hl => ?_)
                  refine lv_goto (tgt := 76) hx hb dX12_leave_155 (by decide) ?_
                  exact ih_76 (k + 1) (upd (upd (upd (upd f (2 + 3 * k) (r (2 + 3 * (k + 1)))) (3 + 3 * k) (r (3 + 3 * (k + 1)))) (4 + 3 * k) (r (4 + 3 * (k + 1)))) (52 + 10 * ia + k) (r (52 + 10 * ia + (k + 1)))) _ _ _ (by omega) (by exact s_lv_st (by omega) (by omega) (by omega) hf) hP hS (lv_sub hl [2, 3, 4, 5, 6, 7, 0] rfl) (by omega)
            exact cut_76 (_ + 1) i (upd (G3 94) 0 (nI (n - 1))) _ _ _ (by omega) (by exact s_lv_0 (fun j hj => (hcp3 j hj).trans (congrFun ((hFc _ (by decide)).trans (hM)) j)) hrn (by omega)) hP hS (lv_sub hl [1, 2, 3, 4, 5, 6, 0] rfl) (Nat.lt_succ_self _)
      exact cut_40 (_ + 1) 0 (1000000000 : Int32) (-9 : Int32) G _ _ _ (by first | assumption | omega) (by exact fun k hk => rfl) (by rfl) hP hS (lv_sub hl [3, 4, 5, 2, 1, 0] rfl) (Nat.lt_succ_self _)
    · skip
      have hi5_2 := z_nin hi0_2
      refine lv_if_ne (tgt := 30) hx hb dX12_leave_20 (by decide) (fun h_ => absurd (by decide) h_) (fun _ => ?_)
      refine lv_aload_n hx hb dX12_leave_23 rfl (lv_at hl 0 rfl) ?_
      refine lv_bipush (v := (-2 : Int32)) hx hb dX12_leave_24 (by decide) ?_
      refine z_Vi C0 hP hD hA hS (As := [.int (-2 : Int32)]) (rest := []) (k := 92) (c_X12_no l E _ (-2 : Int32) 2 (by decide) (by decide)) (cwV 1 hts (zgV zbw mlRX12_56 imX12_no seX12_no iniRX12 coX12_no) rfl rfl rfl (by decide +kernel) ⟨Nat.le_of_ble_eq_true rfl, Nat.le_of_ble_eq_true rfl⟩) (zk_lt (rfl : zk 92 = 10) (by decide)) (zd_10 E (rfl : zk 92 = 10) _) rfl rfl rfl hl.1 rfl (Nat.le_of_ble_eq_true rfl) dX12_leave_26 ⟨Nat.zero_le _, Nat.zero_le _⟩ (fun r13 G13 H locs hw13 hP hS => ?_)
      obtain ⟨rfl, rfl⟩ := hw13
      subst hQ_
      exact z_iret C0 hP hS (v := (-2 : Int32)) (by exact zQm_of (k := 2) (by simp [A_leave, hz_ia, hy_ia, hi5_2]) (fun k hk => g1_n (by omega)) (g1_s _ _ _)) dX12_leave_29
  · skip
    have hz_ia := zin_f (by omega) hno1
    refine lv_if_ne (tgt := 14) hx hb dX12_leave_5 (by decide) (fun h_ => absurd (by decide) h_) (fun _ => ?_)
    refine lv_aload_n hx hb dX12_leave_8 rfl (lv_at hl 0 rfl) ?_
    refine lv_iconst (v := (-1 : Int32)) hx hb dX12_leave_9 (by decide) ?_
    refine z_Vi C0 hP hD hA hS (As := [.int (-1 : Int32)]) (rest := []) (k := 92) (c_X12_no l E _ (-1 : Int32) 1 (by decide) (by decide)) (cwV 1 hts (zgV zbw mlRX12_56 imX12_no seX12_no iniRX12 coX12_no) rfl rfl rfl (by decide +kernel) ⟨Nat.le_of_ble_eq_true rfl, Nat.le_of_ble_eq_true rfl⟩) (zk_lt (rfl : zk 92 = 10) (by decide)) (zd_10 E (rfl : zk 92 = 10) _) rfl rfl rfl hl.1 rfl (Nat.le_of_ble_eq_true rfl) dX12_leave_10 ⟨Nat.zero_le _, Nat.zero_le _⟩ (fun r14 G14 H locs hw14 hP hS => ?_)
    obtain ⟨rfl, rfl⟩ := hw14
    subst hQ_
    exact z_iret C0 hP hS (v := (-1 : Int32)) (by exact zQm_of (k := 1) (by simp [A_leave, hz_ia]) (fun k hk => g1_n (by omega)) (g1_s _ _ _)) dX12_leave_13
