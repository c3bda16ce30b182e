/-! laid by wip/whole/vcg.py -/
set_option maxHeartbeats 4000000 in
set_option maxRecDepth 100000 in
theorem c_X8_isFull (l : Launch) (E : zE) (G : zG) (m : Nat) (hm : G 45 0 = nI m) (hm12 : m ≤ 12) : zMi l yX8_isFull wsX8_isFull ({ frames := 0, cells := 0, slots := 0, locals := 0 } : Room) E G [.ref (E.1 45)] (fun r1 G1 => (1 = r1 ∧ G = G1 ∧ 12 ≤ m) ∨ (0 = r1 ∧ G = G1 ∧ m < 12)) := by
  refine zOf (cc := cX8_isFull) (nL := 1) (ret := (some .boolean)) RX8 (by decide) rfl rfl (Nat.le_of_ble_eq_true rfl) ?_
  intro p_ e_ s_ m_ a_ b_ me_ c_ ls C0 hP hS hl
  have hx := C0.1
  have hb := C0.2.1
  have hts := C0.2.2.2.2.1
  have hD : zD E (zA E s_.heap.size) := C0.2.2.2.2.2.2.2.2
  have hA : ∀ q : Nat, s_.heap.size ≤ q → zA E s_.heap.size q := fun q h => Or.inr h
  refine z_gen (fun Q_ hQ_ => ?_)
  have hl : lv_has ls 1 [(0, .ref (E.1 45))] := hl
  refine lv_aload_n hx hb dX8_isFull_0 rfl (lv_at hl 0 rfl) ?_
  refine z_get C0 hP (C := RX8) (T := TX8) (N := 2) (ci := 6) (index := 9) (k := 45) (ref := "WetSuitPedalsShoes$Row") (zk_lt (rfl : zk 45 = 6) (by decide)) (zd_6 E (rfl : zk 45 = 6) _) rfl (zmi inU_8) 0 (by decide) (zm flRX8_9) rfl (v := .int (nI m)) (congrArg (fun z => some (Value.int z)) (hm)) dX8_isFull_1 ?_
  refine lv_bipush (v := (12 : Int32)) hx hb dX8_isFull_4 (by decide) ?_
  refine z_N_lt hx hb (a := m) (b := 12) (tgt := 13) dX8_isFull_6 rfl rfl (by omega) (by omega) (by decide) (fun c_6 => ?_) (fun c_6 => ?_)
  · skip
    refine lv_iconst (v := (0 : Int32)) hx hb dX8_isFull_13 (by decide) ?_
    subst hQ_
    exact z_zret C0 hP hS (v := (0 : Int32)) (by decide) (by exact Or.inr ⟨rfl, rfl, by omega⟩) dX8_isFull_14
  · skip
    refine lv_iconst (v := (1 : Int32)) hx hb dX8_isFull_9 (by decide) ?_
    refine lv_goto (tgt := 14) hx hb dX8_isFull_10 (by decide) ?_
    subst hQ_
    exact z_zret C0 hP hS (v := (1 : Int32)) (by decide) (by exact Or.inl ⟨rfl, rfl, by omega⟩) dX8_isFull_14
theorem flRX8_15 : Cond.fieldLink RX8 15 "WetSuitPedalsShoes$Row" "numbers" "[I" ∈ zU := zU_m 167 (by decide +kernel) rfl
set_option maxHeartbeats 4000000 in
set_option maxRecDepth 100000 in
theorem c_X8_put (l : Launch) (E : zE) (G : zG) (m : Nat) (v : Int32) (hm : G 45 0 = nI m) (hm12 : m < 12) : zMi l yX8_put wsX8_put ({ frames := 0, cells := 0, slots := 0, locals := 0 } : Room) E G [.ref (E.1 45), .int v] (fun r1 G1 => nI (m + 1) = r1 ∧ (∀ k, (k < 45 ∨ 46 < k) → G1 k = G k) ∧ G1 45 = upd (G 45) 0 (nI (m + 1)) ∧ G1 46 = upd (G 46) m v) := by
  refine zOf (cc := cX8_put) (nL := 2) (ret := (some .int)) RX8 (by decide) rfl rfl (Nat.le_of_ble_eq_true rfl) ?_
  intro p_ e_ s_ m_ a_ b_ me_ c_ ls C0 hP hS hl
  have hx := C0.1
  have hb := C0.2.1
  have hts := C0.2.2.2.2.1
  have hD : zD E (zA E s_.heap.size) := C0.2.2.2.2.2.2.2.2
  have hA : ∀ q : Nat, s_.heap.size ≤ q → zA E s_.heap.size q := fun q h => Or.inr h
  refine z_gen (fun Q_ hQ_ => ?_)
  have hl : lv_has ls 2 [(0, .ref (E.1 45)), (1, .int v)] := hl
  refine lv_aload_n hx hb dX8_put_0 rfl (lv_at hl 0 rfl) ?_
  refine z_get C0 hP (C := RX8) (T := TX8) (N := 2) (ci := 6) (index := 9) (k := 45) (ref := "WetSuitPedalsShoes$Row") (zk_lt (rfl : zk 45 = 6) (by decide)) (zd_6 E (rfl : zk 45 = 6) _) rfl (zmi inU_8) 0 (by decide) (zm flRX8_9) rfl (v := .int (nI m)) (congrArg (fun z => some (Value.int z)) (hm)) dX8_put_1 ?_
  refine lv_bipush (v := (12 : Int32)) hx hb dX8_put_4 (by decide) ?_
  refine z_N_ge hx hb (a := m) (b := 12) (tgt := 29) dX8_put_6 rfl rfl (by omega) (by omega) (by decide) (fun c_6 => ?_) (fun c_6 => ?_)
  · exact absurd c_6 (by omega)
  · skip
    refine lv_aload_n hx hb dX8_put_9 rfl (lv_at hl 0 rfl) ?_
    refine z_get C0 hP (C := RX8) (T := TX8) (N := 2) (ci := 6) (index := 15) (k := 45) (ref := "WetSuitPedalsShoes$Row") (zk_lt (rfl : zk 45 = 6) (by decide)) (zd_6 E (rfl : zk 45 = 6) _) rfl (zmi inU_8) 1 (by decide) (zm flRX8_15) rfl (v := .ref (E.1 46)) (rfl) dX8_put_10 ?_
    refine lv_aload_n hx hb dX8_put_13 rfl (lv_at hl 0 rfl) ?_
    refine z_get C0 hP (C := RX8) (T := TX8) (N := 2) (ci := 6) (index := 9) (k := 45) (ref := "WetSuitPedalsShoes$Row") (zk_lt (rfl : zk 45 = 6) (by decide)) (zd_6 E (rfl : zk 45 = 6) _) rfl (zmi inU_8) 0 (by decide) (zm flRX8_9) rfl (v := .int (nI m)) (congrArg (fun z => some (Value.int z)) (hm)) dX8_put_14 ?_
    refine lv_iload_n hx hb dX8_put_17 rfl (lv_at hl 1 rfl) ?_
    refine z_iast C0 hP hD hS (k := 46) (i := m) (v := v) (F := G 46) (rfl) (rfl : zk 46 = 11) (Nat.lt_of_lt_of_eq (show m < 12 by omega) (rfl : zl 46 = 12).symm) rfl dX8_put_18 (fun H locs hP hS => ?_)
    refine lv_aload_n hx hb dX8_put_19 rfl (lv_at hl 0 rfl) ?_
    refine lv_dup hx hb dX8_put_20 rfl ?_
    refine z_get C0 hP (C := RX8) (T := TX8) (N := 2) (ci := 6) (index := 9) (k := 45) (ref := "WetSuitPedalsShoes$Row") (zk_lt (rfl : zk 45 = 6) (by decide)) (zd_6 E (rfl : zk 45 = 6) _) rfl (zmi inU_8) 0 (by decide) (zm flRX8_9) rfl (v := .int (nI m)) (congrArg (fun z => some (Value.int z)) ((congrFun (g1_n (by decide)) _).trans (hm))) dX8_put_21 ?_
    refine lv_iconst (v := (1 : Int32)) hx hb dX8_put_24 (by decide) ?_
    refine z_iadd hx hb (a := m) (b := 1) (n := m + 1) dX8_put_25 rfl rfl rfl ?_
    refine z_put C0 hP hD hS (C := RX8) (T := TX8) (N := 2) (ci := 6) (index := 9) (k := 45) (ref := "WetSuitPedalsShoes$Row") (F := G 45) (ty := .int) (g1_n (by decide)) tyX8 tyX8_ok nmX8 (zk_lt (rfl : zk 45 = 6) (by decide)) (zd_6 E (rfl : zk 45 = 6) _) rfl (zmi inU_8) 0 (by decide) (zm flRX8_9) rfl rfl (by decide +kernel) (by rfl) rfl (by show 0 < 2; decide) (upd (G 45) 0 (nI (m + 1))) ((zd_6 E (rfl : zk 45 = 6) _).trans (rfl)) dX8_put_26 (fun H locs hP hS => ?_)
    refine lv_aload_n hx hb dX8_put_29 rfl (lv_at hl 0 rfl) ?_
    refine z_get C0 hP (C := RX8) (T := TX8) (N := 2) (ci := 6) (index := 9) (k := 45) (ref := "WetSuitPedalsShoes$Row") (zk_lt (rfl : zk 45 = 6) (by decide)) (zd_6 E (rfl : zk 45 = 6) _) rfl (zmi inU_8) 0 (by decide) (zm flRX8_9) rfl (v := .int (nI (m + 1))) (congrArg (fun z => some (Value.int z)) ((congrFun (g1_s _ _ _) _).trans (pk_us))) dX8_put_30 ?_
    subst hQ_
    exact z_iret C0 hP hS (v := (nI (m + 1))) (by exact ⟨rfl, (fun k hk => (g1_n (by omega)).trans (g1_n (by omega))), g1_s _ _ _, (g1_n (by decide)).trans (g1_s _ _ _)⟩) dX8_put_33
set_option maxHeartbeats 4000000 in
set_option maxRecDepth 100000 in
theorem c_X8_firstUnlike (l : Launch) (E : zE) (G : zG) (m n : Nat) (hm : G 45 0 = nI m) (hm12 : m ≤ 12) (hn10 : n ≤ 10) : zMi l yX8_firstUnlike wsX8_firstUnlike ({ frames := 0, cells := 0, slots := 0, locals := 0 } : Room) E G [.ref (E.1 45), .ref (E.1 57), .int (nI n)] (fun r1 G1 => q_un (G 46) (G 57) n m = r1 ∧ G = G1) := by
  refine zOf (cc := cX8_firstUnlike) (nL := 4) (ret := (some .int)) RX8 (by decide) rfl rfl (Nat.le_of_ble_eq_true rfl) ?_
  intro p_ e_ s_ m_ a_ b_ me_ c_ ls C0 hP hS hl
  have hx := C0.1
  have hb := C0.2.1
  have hts := C0.2.2.2.2.1
  have hD : zD E (zA E s_.heap.size) := C0.2.2.2.2.2.2.2.2
  have hA : ∀ q : Nat, s_.heap.size ≤ q → zA E s_.heap.size q := fun q h => Or.inr h
  refine z_gen (fun Q_ hQ_ => ?_)
  have hl : lv_has ls 4 [(0, .ref (E.1 45)), (1, .ref (E.1 57)), (2, .int (nI n))] := hl
  refine lv_iconst (v := (0 : Int32)) hx hb dX8_firstUnlike_0 (by decide) ?_
  refine lv_istore_n (lv' := [(3, .int (0 : Int32)), (0, .ref (E.1 45)), (1, .ref (E.1 57)), (2, .int (nI n))]) hx hb dX8_firstUnlike_1 rfl hl (by decide) rfl (fun ls hl => ?_)
  have cut_2 : ∀ (fuel : Nat), ∀ (i : Nat) (H : Heap) (locs : List Loc) (ls : Array Slot), (i ≤ m) → (s_fst (fun k => decide (n ≤ k ∨ ¬ G 46 k = G 57 k)) i = i) → zP E G H → va_S (zA E s_.heap.size) s_.heap H locs → lv_has ls 4 [(0, .ref (E.1 45)), (1, .ref (E.1 57)), (2, .int (nI n)), (3, .int (nI i))] → m - i < fuel → W p_ l e_ ({ frames := 0, cells := 0, slots := 0, locals := 0 } : Room) s_ m_ a_ b_ me_ c_ H locs 0 0 Q_ (F0 m_ 2 ls []) := by
    intro fuel
    induction fuel with
    | zero =>
      intro i  H locs ls hin hf hP hS hl hfu
      exact absurd hfu (Nat.not_lt_zero _)
    | succ fuel ih_2 =>
      intro i  H locs ls hin hf hP hS hl hfu_2
      refine lv_iload_n hx hb dX8_firstUnlike_2 rfl (lv_at hl 3 rfl) ?_
      refine lv_aload_n hx hb dX8_firstUnlike_3 rfl (lv_at hl 0 rfl) ?_
      refine z_get C0 hP (C := RX8) (T := TX8) (N := 2) (ci := 6) (index := 9) (k := 45) (ref := "WetSuitPedalsShoes$Row") (zk_lt (rfl : zk 45 = 6) (by decide)) (zd_6 E (rfl : zk 45 = 6) _) rfl (zmi inU_8) 0 (by decide) (zm flRX8_9) rfl (v := .int (nI m)) (congrArg (fun z => some (Value.int z)) (hm)) dX8_firstUnlike_4 ?_
      refine z_N_ge hx hb (a := i) (b := m) (tgt := 41) dX8_firstUnlike_7 rfl rfl (by omega) (by omega) (by decide) (fun c_7 => ?_) (fun c_7 => ?_)
      · skip
        refine lv_bipush (v := (-9 : Int32)) hx hb dX8_firstUnlike_41 (by decide) ?_
        subst hQ_
        exact z_iret C0 hP hS (v := (-9 : Int32)) (by exact ⟨q_un_n hf (by omega), rfl⟩) dX8_firstUnlike_43
      · skip
        refine lv_iload_n hx hb dX8_firstUnlike_10 rfl (lv_at hl 3 rfl) ?_
        refine lv_iload_n hx hb dX8_firstUnlike_11 rfl (lv_at hl 2 rfl) ?_
        refine z_N_ge hx hb (a := i) (b := n) (tgt := 33) dX8_firstUnlike_12 rfl rfl (by omega) (by omega) (by decide) (fun c_12 => ?_) (fun c_12 => ?_)
        · skip
          refine lv_iload_n hx hb dX8_firstUnlike_33 rfl (lv_at hl 3 rfl) ?_
          subst hQ_
          exact z_iret C0 hP hS (v := (nI i)) (by exact ⟨q_un_y hf (by omega) (by first | exact Or.inl (by omega) | exact Or.inr c_30), rfl⟩) dX8_firstUnlike_34
        · skip
          refine lv_iload_n hx hb dX8_firstUnlike_15 rfl (lv_at hl 3 rfl) ?_
          refine lv_aload_n hx hb dX8_firstUnlike_16 rfl (lv_at hl 1 rfl) ?_
          refine z_alen C0 hP (k := 57) (v := (10 : Int32)) (rfl : zk 57 = 11) ((congrArg Int32.ofNat (rfl : zl 57 = 10)).trans rfl) dX8_firstUnlike_17 ?_
          refine z_N_ge hx hb (a := i) (b := 10) (tgt := 33) dX8_firstUnlike_18 rfl rfl (by omega) (by omega) (by decide) (fun c_18 => ?_) (fun c_18 => ?_)
          · skip
            refine lv_iload_n hx hb dX8_firstUnlike_33 rfl (lv_at hl 3 rfl) ?_
            subst hQ_
            exact z_iret C0 hP hS (v := (nI i)) (by exact ⟨q_un_y hf (by omega) (by first | exact Or.inl (by omega) | exact Or.inr c_30), rfl⟩) dX8_firstUnlike_34
          · skip
            refine lv_aload_n hx hb dX8_firstUnlike_21 rfl (lv_at hl 0 rfl) ?_
            refine z_get C0 hP (C := RX8) (T := TX8) (N := 2) (ci := 6) (index := 15) (k := 45) (ref := "WetSuitPedalsShoes$Row") (zk_lt (rfl : zk 45 = 6) (by decide)) (zd_6 E (rfl : zk 45 = 6) _) rfl (zmi inU_8) 1 (by decide) (zm flRX8_15) rfl (v := .ref (E.1 46)) (rfl) dX8_firstUnlike_22 ?_
            refine lv_iload_n hx hb dX8_firstUnlike_25 rfl (lv_at hl 3 rfl) ?_
            refine z_iald C0 hP (k := 46) (i := i) (v := (G 46 i)) (rfl : zk 46 = 11) (Nat.lt_of_lt_of_eq (show i < 12 by omega) (rfl : zl 46 = 12).symm) rfl dX8_firstUnlike_26 (rfl) ?_
            refine lv_aload_n hx hb dX8_firstUnlike_27 rfl (lv_at hl 1 rfl) ?_
            refine lv_iload_n hx hb dX8_firstUnlike_28 rfl (lv_at hl 3 rfl) ?_
            refine z_iald C0 hP (k := 57) (i := i) (v := (G 57 i)) (rfl : zk 57 = 11) (Nat.lt_of_lt_of_eq (show i < 10 by omega) (rfl : zl 57 = 10).symm) rfl dX8_firstUnlike_29 (rfl) ?_
            refine lv_icmp_eq (tgt := 35) hx hb dX8_firstUnlike_30 (by decide) (fun c_30 => ?_) (fun c_30 => ?_)
            · skip
              refine lv_iinc (v := (nI (i + 1))) (lv' := [(3, .int (nI (i + 1))), (0, .ref (E.1 45)), (1, .ref (E.1 57)), (2, .int (nI n))]) hx hb dX8_firstUnlike_35 hl (k := 3) rfl (z_inc (by decide)) (by decide) rfl (fun ls hl => ?_)
              refine lv_goto (tgt := 2) hx hb dX8_firstUnlike_38 (by decide) ?_
              exact ih_2 (i + 1) _ _ _ (by first | assumption | omega) (by exact s_fst_no hf (fun q => (of_decide_eq_true q).elim (fun z => absurd z (by omega)) (fun z => z c_30))) hP hS (lv_sub hl [1, 2, 3, 0] rfl) (by omega)
            · skip
              refine lv_iload_n hx hb dX8_firstUnlike_33 rfl (lv_at hl 3 rfl) ?_
              subst hQ_
              exact z_iret C0 hP hS (v := (nI i)) (by exact ⟨q_un_y hf (by omega) (by first | exact Or.inl (by omega) | exact Or.inr c_30), rfl⟩) dX8_firstUnlike_34
  exact cut_2 (_ + 1) 0 _ _ _ (by first | assumption | omega) (by rfl) hP hS (lv_sub hl [1, 2, 3, 0] rfl) (Nat.lt_succ_self _)
theorem mlRX11_261 : Cond.methodLink RX11 261 yX8_isFull ∈ zU := zU_m 733 (by decide +kernel) rfl
theorem coX8_isFull : Cond.code yX8_isFull cX8_isFull 1 (some .boolean) ∈ zU := zU_m 736 (by decide +kernel) rfl
theorem imX8_isFull : Cond.instanceMethod yX8_isFull ∈ zU := zU_m 734 (by decide +kernel) rfl
theorem seX8_isFull : Cond.selects RX8 yX8_isFull yX8_isFull ∈ zU := zU_m 735 (by decide +kernel) rfl
theorem mlRX11_262 : Cond.methodLink RX11 262 yX8_put ∈ zU := zU_m 737 (by decide +kernel) rfl
theorem coX8_put : Cond.code yX8_put cX8_put 2 (some .int) ∈ zU := zU_m 740 (by decide +kernel) rfl
theorem imX8_put : Cond.instanceMethod yX8_put ∈ zU := zU_m 738 (by decide +kernel) rfl
theorem seX8_put : Cond.selects RX8 yX8_put yX8_put ∈ zU := zU_m 739 (by decide +kernel) rfl
set_option maxHeartbeats 4000000 in
set_option maxRecDepth 100000 in
theorem c_X11_row (l : Launch) (E : zE) (G : zG) (v : Int32) (m : Nat) (hm : G 45 0 = nI m) (hm12 : m ≤ 12) (hp : zPl G) : zMi l yX11_row wsX11_row ({ frames := 1, cells := 0, slots := 0, locals := 22 } : Room) E G [.ref (E.1 0), .int v] (fun r1 G1 => zRc (R_row m (G 46) v) G r1 G1) := by
  refine zOf (cc := cX11_row) (nL := 2) (ret := (some .int)) RX11 (by decide) rfl rfl (Nat.le_of_ble_eq_true rfl) ?_
  intro p_ e_ s_ m_ a_ b_ me_ c_ ls C0 hP hS hl
  have hx := C0.1
  have hb := C0.2.1
  have hts := C0.2.2.2.2.1
  have hD : zD E (zA E s_.heap.size) := C0.2.2.2.2.2.2.2.2
  have hA : ∀ q : Nat, s_.heap.size ≤ q → zA E s_.heap.size q := fun q h => Or.inr h
  refine z_gen (fun Q_ hQ_ => ?_)
  have hl : lv_has ls 2 [(0, .ref (E.1 0)), (1, .int v)] := hl
  refine lv_iload_n hx hb dX11_row_0 rfl (lv_at hl 1 rfl) ?_
  refine lv_if_ge (tgt := 11) hx hb dX11_row_1 (by decide) (fun c_1 => ?_) (fun c_1 => ?_)
  · skip
    have d_1 := Int32.not_lt.mpr c_1
    refine lv_iload_n hx hb dX11_row_11 rfl (lv_at hl 1 rfl) ?_
    refine lv_bipush (v := (99 : Int32)) hx hb dX11_row_12 (by decide) ?_
    refine lv_icmp_gt (tgt := 27) hx hb dX11_row_14 (by decide) (fun c_14 => ?_) (fun c_14 => ?_)
    · skip
      have e9 := (show 99 < v from c_14)
      refine lv_aload_n hx hb dX11_row_27 rfl (lv_at hl 0 rfl) ?_
      refine lv_bipush (v := (-6 : Int32)) hx hb dX11_row_28 (by decide) ?_
      refine z_Vi C0 hP hD hA hS (As := [.int (-6 : Int32)]) (rest := []) (k := 0) (c_X11_refuse l E _ (-6 : Int32) 6 (by decide) (by decide) (by decide)) (cwV 1 hts (zgV zbw mlRX11_72 imX11_refuse seX11_refuse iniRX11 coX11_refuse) rfl rfl rfl (by decide +kernel) ⟨Nat.le_of_ble_eq_true rfl, Nat.le_of_ble_eq_true rfl⟩) (zk_lt (rfl : zk 0 = 9) (by decide)) (zd_9 E (rfl : zk 0 = 9) _) rfl rfl rfl hl.1 rfl (Nat.le_of_ble_eq_true rfl) dX11_row_30 ⟨Nat.zero_le _, Nat.zero_le _⟩ (fun r1 G1 H locs hw1 hP hS => ?_)
      obtain ⟨rfl, rfl⟩ := hw1
      subst hQ_
      exact z_iret C0 hP hS (v := (-6 : Int32)) (by exact zRc_of (k := 6) (by simp [R_row, d_1, c_14, e9]) (fun k hk => g1_n (by omega)) ((congrFun (g1_n (by decide)) _).trans (hm)) (g1_n (by decide)) (g1_s _ _ _) (z_plk (g1_n (by decide)) hp)) dX11_row_33
    · skip
      refine lv_aload_n hx hb dX11_row_17 rfl (lv_at hl 0 rfl) ?_
      refine z_get C0 hP (C := RX11) (T := TX11) (N := 11) (ci := 9) (index := 33) (k := 0) (ref := "WetSuitPedalsShoes") (zk_lt (rfl : zk 0 = 9) (by decide)) (zd_9 E (rfl : zk 0 = 9) _) rfl (zmi inU_11) 4 (by decide) (zm flRX11_33) rfl (v := .ref (E.1 45)) (rfl) dX11_row_18 ?_
      refine z_Vi C0 hP hD hA hS (As := []) (rest := []) (k := 45) (c_X8_isFull l E _ m hm hm12) (cwV 0 hts (zgV zbw mlRX11_261 imX8_isFull seX8_isFull iniRX8 coX8_isFull) rfl rfl rfl (by decide +kernel) ⟨Nat.le_of_ble_eq_true rfl, Nat.le_of_ble_eq_true rfl⟩) (zk_lt (rfl : zk 45 = 6) (by decide)) (zd_6 E (rfl : zk 45 = 6) _) rfl rfl rfl hl.1 rfl (Nat.le_of_ble_eq_true rfl) dX11_row_21 ⟨Nat.zero_le _, Nat.zero_le _⟩ (fun r2 G2 H locs hw2 hP hS => ?_)
      rcases hw2 with ⟨rfl, rfl, hfu2⟩ | ⟨rfl, rfl, hfu2⟩
      · skip
        refine lv_if_eq (tgt := 34) hx hb dX11_row_24 (by decide) (fun h_ => absurd h_ (by decide)) (fun _ => ?_)
        refine lv_aload_n hx hb dX11_row_27 rfl (lv_at hl 0 rfl) ?_
        refine lv_bipush (v := (-6 : Int32)) hx hb dX11_row_28 (by decide) ?_
        refine z_Vi C0 hP hD hA hS (As := [.int (-6 : Int32)]) (rest := []) (k := 0) (c_X11_refuse l E _ (-6 : Int32) 6 (by decide) (by decide) (by decide)) (cwV 1 hts (zgV zbw mlRX11_72 imX11_refuse seX11_refuse iniRX11 coX11_refuse) rfl rfl rfl (by decide +kernel) ⟨Nat.le_of_ble_eq_true rfl, Nat.le_of_ble_eq_true rfl⟩) (zk_lt (rfl : zk 0 = 9) (by decide)) (zd_9 E (rfl : zk 0 = 9) _) rfl rfl rfl hl.1 rfl (Nat.le_of_ble_eq_true rfl) dX11_row_30 ⟨Nat.zero_le _, Nat.zero_le _⟩ (fun r3 G3 H locs hw3 hP hS => ?_)
        obtain ⟨rfl, rfl⟩ := hw3
        subst hQ_
        exact z_iret C0 hP hS (v := (-6 : Int32)) (by exact zRc_of (k := 6) (by simp [R_row, d_1, c_14, hfu2]) (fun k hk => g1_n (by omega)) ((congrFun (g1_n (by decide)) _).trans (hm)) (g1_n (by decide)) (g1_s _ _ _) (z_plk (g1_n (by decide)) hp)) dX11_row_33
      · skip
        have hfv2 : ¬ 12 ≤ m := by omega
        refine lv_if_eq (tgt := 34) hx hb dX11_row_24 (by decide) (fun _ => ?_) (fun h_ => absurd (by decide) h_)
        refine lv_aload_n hx hb dX11_row_34 rfl (lv_at hl 0 rfl) ?_
        refine z_get C0 hP (C := RX11) (T := TX11) (N := 11) (ci := 9) (index := 33) (k := 0) (ref := "WetSuitPedalsShoes") (zk_lt (rfl : zk 0 = 9) (by decide)) (zd_9 E (rfl : zk 0 = 9) _) rfl (zmi inU_11) 4 (by decide) (zm flRX11_33) rfl (v := .ref (E.1 45)) (rfl) dX11_row_35 ?_
        refine lv_iload_n hx hb dX11_row_38 rfl (lv_at hl 1 rfl) ?_
        refine z_Vi C0 hP hD hA hS (As := [.int v]) (rest := []) (k := 45) (c_X8_put l E _ m v hm (by omega)) (cwV 1 hts (zgV zbw mlRX11_262 imX8_put seX8_put iniRX8 coX8_put) rfl rfl rfl (by decide +kernel) ⟨Nat.le_of_ble_eq_true rfl, Nat.le_of_ble_eq_true rfl⟩) (zk_lt (rfl : zk 45 = 6) (by decide)) (zd_6 E (rfl : zk 45 = 6) _) rfl rfl rfl hl.1 rfl (Nat.le_of_ble_eq_true rfl) dX11_row_39 ⟨Nat.zero_le _, Nat.zero_le _⟩ (fun r4 G4 H locs hw4 hP hS => ?_)
        obtain ⟨hr4, hF4, hm04, hm14⟩ := hw4
        subst hr4
        subst hQ_
        exact z_iret C0 hP hS (v := (nI (m + 1))) (by exact zRc_of (k := 0) (by simp [R_row, d_1, c_14, hfv2]) (fun k hk => hF4 k (by omega)) ((congrFun hm04 0).trans rfl) hm14 (hF4 _ (by decide)) (z_plk (hF4 _ (by decide)) hp)) dX11_row_42
  · skip
    have d_1 := Int32.not_le.mp c_1
    refine lv_aload_n hx hb dX11_row_4 rfl (lv_at hl 0 rfl) ?_
    refine lv_bipush (v := (-4 : Int32)) hx hb dX11_row_5 (by decide) ?_
    refine z_Vi C0 hP hD hA hS (As := [.int (-4 : Int32)]) (rest := []) (k := 0) (c_X11_refuse l E _ (-4 : Int32) 4 (by decide) (by decide) (by decide)) (cwV 1 hts (zgV zbw mlRX11_72 imX11_refuse seX11_refuse iniRX11 coX11_refuse) rfl rfl rfl (by decide +kernel) ⟨Nat.le_of_ble_eq_true rfl, Nat.le_of_ble_eq_true rfl⟩) (zk_lt (rfl : zk 0 = 9) (by decide)) (zd_9 E (rfl : zk 0 = 9) _) rfl rfl rfl hl.1 rfl (Nat.le_of_ble_eq_true rfl) dX11_row_7 ⟨Nat.zero_le _, Nat.zero_le _⟩ (fun r5 G5 H locs hw5 hP hS => ?_)
    obtain ⟨rfl, rfl⟩ := hw5
    subst hQ_
    exact z_iret C0 hP hS (v := (-4 : Int32)) (by exact zRc_of (k := 4) (by simp [R_row, d_1]) (fun k hk => g1_n (by omega)) ((congrFun (g1_n (by decide)) _).trans (hm)) (g1_n (by decide)) (g1_s _ _ _) (z_plk (g1_n (by decide)) hp)) dX11_row_10
theorem mlRX11_263 : Cond.methodLink RX11 263 yX8_firstUnlike ∈ zU := zU_m 745 (by decide +kernel) rfl
theorem coX8_firstUnlike : Cond.code yX8_firstUnlike cX8_firstUnlike 4 (some .int) ∈ zU := zU_m 748 (by decide +kernel) rfl
theorem imX8_firstUnlike : Cond.instanceMethod yX8_firstUnlike ∈ zU := zU_m 746 (by decide +kernel) rfl
theorem seX8_firstUnlike : Cond.selects RX8 yX8_firstUnlike yX8_firstUnlike ∈ zU := zU_m 747 (by decide +kernel) rfl
set_option maxHeartbeats 4000000 in
set_option maxRecDepth 100000 in
theorem c_X11_judge (l : Launch) (E : zE) (G : zG) (r : Nat → Int32) (n na : Nat) (athlete : Int32) (hR : zFA G 1 r n na) (hn10 : n ≤ 10) (hna : na ≤ 5) (hp : zPl G) (hkd : zKd r n) (m : Nat) (hm : G 45 0 = nI m) (hm12 : m ≤ 12) : zMi l yX11_judge wsX11_judge ({ frames := 5, cells := 0, slots := 0, locals := 111 } : Room) E G [.ref (E.1 0), .int athlete] (fun r1 G1 => zRc (R_judge r n na m (G 46) athlete) G r1 G1) := by
  refine zOf (cc := cX11_judge) (nL := 3) (ret := (some .int)) RX11 (by decide) rfl rfl (Nat.le_of_ble_eq_true rfl) ?_
  intro p_ e_ s_ m_ a_ b_ me_ c_ ls C0 hP hS hl
  have hx := C0.1
  have hb := C0.2.1
  have hts := C0.2.2.2.2.1
  have hD : zD E (zA E s_.heap.size) := C0.2.2.2.2.2.2.2.2
  have hA : ∀ q : Nat, s_.heap.size ≤ q → zA E s_.heap.size q := fun q h => Or.inr h
  refine z_gen (fun Q_ hQ_ => ?_)
  have hl : lv_has ls 3 [(0, .ref (E.1 0)), (1, .int athlete)] := hl
  refine lv_aload_n hx hb dX11_judge_0 rfl (lv_at hl 0 rfl) ?_
  refine z_get C0 hP (C := RX11) (T := TX11) (N := 11) (ci := 9) (index := 10) (k := 0) (ref := "WetSuitPedalsShoes") (zk_lt (rfl : zk 0 = 9) (by decide)) (zd_9 E (rfl : zk 0 = 9) _) rfl (zmi inU_11) 0 (by decide) (zm flRX11_10) rfl (v := .ref (E.1 1)) (rfl) dX11_judge_1 ?_
  refine lv_iload_n hx hb dX11_judge_4 rfl (lv_at hl 1 rfl) ?_
  refine z_Vi C0 hP hD hA hS (As := [.int athlete]) (rest := []) (k := 1) (c_X3_has l E _ 1 na athlete z_lit_Fie_1 (hR.2.1) (by omega)) (cwV 1 hts (zgV zbw mlRX11_117 imX3_has seX3_has iniRX3 coX3_has) rfl rfl rfl (by decide +kernel) ⟨Nat.le_of_ble_eq_true rfl, Nat.le_of_ble_eq_true rfl⟩) (zk_lt (rfl : zk 1 = 3) (by decide)) (zd_3 E (rfl : zk 1 = 3) _) rfl rfl rfl hl.1 rfl (Nat.le_of_ble_eq_true rfl) dX11_judge_5 ⟨Nat.zero_le _, Nat.zero_le _⟩ (fun r1 G1 H locs hw1 hP hS => ?_)
  rcases hw1 with ⟨rfl, rfl, ia, hia, rfl⟩ | ⟨rfl, rfl, hno1⟩
  · skip
    have hz_ia := zin_t hia (by omega)
    have hy_ia : zix (nI ia) = ia := zix_n (by omega)
    refine lv_if_ne (tgt := 17) hx hb dX11_judge_8 (by decide) (fun _ => ?_) (fun h_ => absurd h_ (by decide))
    refine lv_aload_n hx hb dX11_judge_17 rfl (lv_at hl 0 rfl) ?_
    refine lv_iload_n hx hb dX11_judge_18 rfl (lv_at hl 1 rfl) ?_
    refine z_Vi C0 hP hD hA hS (As := [.int (nI ia)]) (rest := []) (k := 0) (c_X11_runPlan l E _ r n na ia hR hkd hn10 hna (by omega)) (cwV 1 hts (zgV zbw mlRX11_142 imX11_runPlan seX11_runPlan iniRX11 coX11_runPlan) rfl rfl rfl (by decide +kernel) ⟨Nat.le_of_ble_eq_true rfl, Nat.le_of_ble_eq_true rfl⟩) (zk_lt (rfl : zk 0 = 9) (by decide)) (zd_9 E (rfl : zk 0 = 9) _) rfl rfl rfl hl.1 rfl (Nat.le_of_ble_eq_true rfl) dX11_judge_19 ⟨Nat.zero_le _, Nat.zero_le _⟩ (fun r2 G2 H locs hw2 hP hS => ?_)
    obtain ⟨hr2, hF2, hTA2, hdr2, h32⟩ := hw2
    subst hr2
    refine lv_pop hx hb dX11_judge_22 rfl ?_
    refine lv_aload_n hx hb dX11_judge_23 rfl (lv_at hl 0 rfl) ?_
    refine z_get C0 hP (C := RX11) (T := TX11) (N := 11) (ci := 9) (index := 33) (k := 0) (ref := "WetSuitPedalsShoes") (zk_lt (rfl : zk 0 = 9) (by decide)) (zd_9 E (rfl : zk 0 = 9) _) rfl (zmi inU_11) 4 (by decide) (zm flRX11_33) rfl (v := .ref (E.1 45)) (rfl) dX11_judge_24 ?_
    refine lv_aload_n hx hb dX11_judge_27 rfl (lv_at hl 0 rfl) ?_
    refine z_get C0 hP (C := RX11) (T := TX11) (N := 11) (ci := 9) (index := 44) (k := 0) (ref := "WetSuitPedalsShoes") (zk_lt (rfl : zk 0 = 9) (by decide)) (zd_9 E (rfl : zk 0 = 9) _) rfl (zmi inU_11) 6 (by decide) (zm flRX11_44) rfl (v := .ref (E.1 48)) (rfl) dX11_judge_28 ?_
    refine z_get C0 hP (C := RX10) (T := TX10) (N := 6) (ci := 8) (index := 148) (k := 48) (ref := "WetSuitPedalsShoes$Trial") (zk_lt (rfl : zk 48 = 8) (by decide)) (zd_8 E (rfl : zk 48 = 8) _) rfl (zmi inU_10) 4 (by decide) (zm flRX11_148) rfl (v := .ref (E.1 57)) (rfl) dX11_judge_31 ?_
    refine lv_aload_n hx hb dX11_judge_34 rfl (lv_at hl 0 rfl) ?_
    refine z_get C0 hP (C := RX11) (T := TX11) (N := 11) (ci := 9) (index := 10) (k := 0) (ref := "WetSuitPedalsShoes") (zk_lt (rfl : zk 0 = 9) (by decide)) (zd_9 E (rfl : zk 0 = 9) _) rfl (zmi inU_11) 0 (by decide) (zm flRX11_10) rfl (v := .ref (E.1 1)) (rfl) dX11_judge_35 ?_
    refine z_get C0 hP (C := RX3) (T := TX3) (N := 3) (ci := 3) (index := 93) (k := 1) (ref := "WetSuitPedalsShoes$Field") (zk_lt (rfl : zk 1 = 3) (by decide)) (zd_3 E (rfl : zk 1 = 3) _) rfl (zmi inU_3) 0 (by decide) (zm flRX11_93) rfl (v := .ref (E.1 2)) (rfl) dX11_judge_38 ?_
    refine z_get C0 hP (C := RX1) (T := TX1) (N := 4) (ci := 1) (index := 138) (k := 2) (ref := "WetSuitPedalsShoes$Course") (zk_lt (rfl : zk 2 = 1) (by decide)) (zd_1 E (rfl : zk 2 = 1) _) rfl (zmi inU_1) 0 (by decide) (zm flRX11_138) rfl (v := .int (nI n)) (congrArg (fun z => some (Value.int z)) ((congrFun (hF2 _ (by decide)) _).trans (hR.1))) dX11_judge_41 ?_
    refine z_Vi C0 hP hD hA hS (As := [.ref (E.1 57), .int (nI n)]) (rest := []) (k := 45) (c_X8_firstUnlike l E _ m n ((congrFun (hF2 _ (by decide)) _).trans (hm)) hm12 (by omega)) (cwV 2 hts (zgV zbw mlRX11_263 imX8_firstUnlike seX8_firstUnlike iniRX8 coX8_firstUnlike) rfl rfl rfl (by decide +kernel) ⟨Nat.le_of_ble_eq_true rfl, Nat.le_of_ble_eq_true rfl⟩) (zk_lt (rfl : zk 45 = 6) (by decide)) (zd_6 E (rfl : zk 45 = 6) _) rfl rfl rfl hl.1 rfl (Nat.le_of_ble_eq_true rfl) dX11_judge_44 ⟨Nat.zero_le _, Nat.zero_le _⟩ (fun r3 G3 H locs hw3 hP hS => ?_)
    obtain ⟨hr3, rfl⟩ := hw3
    have hr3 : q_un (G 46) (q_leg r ia) n m = _ := (q_un_c (hF2 _ (by decide)) (fun k hk => (h32 k hk).2.1) : q_un (G2 46) (G2 57) n m = q_un (G 46) (q_leg r ia) n m).symm.trans hr3
    subst hr3
    refine lv_istore_n (lv' := [(2, .int (q_un (G 46) (q_leg r ia) n m)), (0, .ref (E.1 0)), (1, .int (nI ia))]) hx hb dX11_judge_47 rfl hl (by decide) rfl (fun ls hl => ?_)
    refine lv_aload_n hx hb dX11_judge_48 rfl (lv_at hl 1 rfl) ?_
    refine z_get C0 hP (C := RX11) (T := TX11) (N := 11) (ci := 9) (index := 33) (k := 0) (ref := "WetSuitPedalsShoes") (zk_lt (rfl : zk 0 = 9) (by decide)) (zd_9 E (rfl : zk 0 = 9) _) rfl (zmi inU_11) 4 (by decide) (zm flRX11_33) rfl (v := .ref (E.1 45)) (rfl) dX11_judge_49 ?_
    refine z_Vi C0 hP hD hA hS (As := []) (rest := []) (k := 45) (c_X8_forget l E _ m ((congrFun (hF2 _ (by decide)) _).trans (hm))) (cwV 0 hts (zgV zbw mlRX11_267 imX8_forget seX8_forget iniRX8 coX8_forget) rfl rfl rfl (by decide +kernel) ⟨Nat.le_of_ble_eq_true rfl, Nat.le_of_ble_eq_true rfl⟩) (zk_lt (rfl : zk 45 = 6) (by decide)) (zd_6 E (rfl : zk 45 = 6) _) rfl rfl rfl hl.1 rfl (Nat.le_of_ble_eq_true rfl) dX11_judge_52 ⟨Nat.zero_le _, Nat.zero_le _⟩ (fun r4 G4 H locs hw4 hP hS => ?_)
    obtain ⟨hr4, hF4, hro4⟩ := hw4
    subst hr4
    refine lv_pop hx hb dX11_judge_55 rfl ?_
    refine lv_iload_n hx hb dX11_judge_56 rfl (lv_at hl 0 rfl) ?_
    subst hQ_
    exact z_iret C0 hP hS (v := (q_un (G 46) (q_leg r ia) n m)) (by exact zRc_of (m := 0) (k := 0) (by simp [R_judge, hz_ia, hy_ia]) (fun k hk => (hF4 k (by omega)).trans (hF2 k (by omega))) ((congrFun hro4 0).trans rfl) ((hF4 _ (by decide)).trans (hF2 _ (by decide))) ((hF4 _ (by decide)).trans (hF2 _ (by decide))) (z_plk ((hF4 _ (by decide)).trans (hF2 _ (by decide))) hp)) dX11_judge_57
  · skip
    have hz_ia := zin_f (by omega) hno1
    refine lv_if_ne (tgt := 17) hx hb dX11_judge_8 (by decide) (fun h_ => absurd (by decide) h_) (fun _ => ?_)
    refine lv_aload_n hx hb dX11_judge_11 rfl (lv_at hl 0 rfl) ?_
    refine lv_iconst (v := (-1 : Int32)) hx hb dX11_judge_12 (by decide) ?_
    refine z_Vi C0 hP hD hA hS (As := [.int (-1 : Int32)]) (rest := []) (k := 0) (c_X11_refuse l E _ (-1 : Int32) 1 (by decide) (by decide) (by decide)) (cwV 1 hts (zgV zbw mlRX11_72 imX11_refuse seX11_refuse iniRX11 coX11_refuse) rfl rfl rfl (by decide +kernel) ⟨Nat.le_of_ble_eq_true rfl, Nat.le_of_ble_eq_true rfl⟩) (zk_lt (rfl : zk 0 = 9) (by decide)) (zd_9 E (rfl : zk 0 = 9) _) rfl rfl rfl hl.1 rfl (Nat.le_of_ble_eq_true rfl) dX11_judge_13 ⟨Nat.zero_le _, Nat.zero_le _⟩ (fun r5 G5 H locs hw5 hP hS => ?_)
    obtain ⟨rfl, rfl⟩ := hw5
    subst hQ_
    exact z_iret C0 hP hS (v := (-1 : Int32)) (by exact zRc_of (k := 1) (by simp [R_judge, hz_ia]) (fun k hk => g1_n (by omega)) ((congrFun (g1_n (by decide)) _).trans (hm)) (g1_n (by decide)) (g1_s _ _ _) (z_plk (g1_n (by decide)) hp)) dX11_judge_16
theorem flRX12_25 : Cond.fieldLink RX12 25 "WetSuitPedalsShoesModel" "row" "[I" ∈ zU := zU_m 814 (by decide +kernel) rfl
set_option maxHeartbeats 4000000 in
set_option maxRecDepth 100000 in
theorem c_X12_row (l : Launch) (E : zE) (G : zG) (v : Int32) (m : Nat) (hm : G 92 9 = nI m) (hm12 : m ≤ 12) : zMi l yX12_row wsX12_row ({ frames := 1, cells := 0, slots := 0, locals := 21 } : Room) E G [.ref (E.1 92), .int v] (fun r1 G1 => zRm (R_row m (G 98) v) G r1 G1) := by
  refine zOf (cc := cX12_row) (nL := 2) (ret := (some .int)) RX12 (by decide) rfl rfl (Nat.le_of_ble_eq_true rfl) ?_
  intro p_ e_ s_ m_ a_ b_ me_ c_ ls C0 hP hS hl
  have hx := C0.1
  have hb := C0.2.1
  have hts := C0.2.2.2.2.1
  have hD : zD E (zA E s_.heap.size) := C0.2.2.2.2.2.2.2.2
  have hA : ∀ q : Nat, s_.heap.size ≤ q → zA E s_.heap.size q := fun q h => Or.inr h
  refine z_gen (fun Q_ hQ_ => ?_)
  have hl : lv_has ls 2 [(0, .ref (E.1 92)), (1, .int v)] := hl
  refine lv_iload_n hx hb dX12_row_0 rfl (lv_at hl 1 rfl) ?_
  refine lv_if_ge (tgt := 11) hx hb dX12_row_1 (by decide) (fun c_1 => ?_) (fun c_1 => ?_)
  · skip
    have d_1 := Int32.not_lt.mpr c_1
    refine lv_iload_n hx hb dX12_row_11 rfl (lv_at hl 1 rfl) ?_
    refine lv_bipush (v := (99 : Int32)) hx hb dX12_row_12 (by decide) ?_
    refine lv_icmp_gt (tgt := 26) hx hb dX12_row_14 (by decide) (fun c_14 => ?_) (fun c_14 => ?_)
    · skip
      have e9 := (show 99 < v from c_14)
      refine lv_aload_n hx hb dX12_row_26 rfl (lv_at hl 0 rfl) ?_
      refine lv_bipush (v := (-6 : Int32)) hx hb dX12_row_27 (by decide) ?_
      refine z_Vi C0 hP hD hA hS (As := [.int (-6 : Int32)]) (rest := []) (k := 92) (c_X12_no l E _ (-6 : Int32) 6 (by decide) (by decide)) (cwV 1 hts (zgV zbw mlRX12_56 imX12_no seX12_no iniRX12 coX12_no) rfl rfl rfl (by decide +kernel) ⟨Nat.le_of_ble_eq_true rfl, Nat.le_of_ble_eq_true rfl⟩) (zk_lt (rfl : zk 92 = 10) (by decide)) (zd_10 E (rfl : zk 92 = 10) _) rfl rfl rfl hl.1 rfl (Nat.le_of_ble_eq_true rfl) dX12_row_29 ⟨Nat.zero_le _, Nat.zero_le _⟩ (fun r1 G1 H locs hw1 hP hS => ?_)
      obtain ⟨rfl, rfl⟩ := hw1
      subst hQ_
      exact z_iret C0 hP hS (v := (-6 : Int32)) (by exact zRm_of (m := m) (k := 6) (by simp [R_row, d_1, c_14, e9]) (fun k hk => g1_n (by omega)) (fun x hx => congrFun (g1_n (by decide)) x) ((congrFun (g1_n (by decide)) _).trans (hm)) (g1_n (by decide)) (g1_s _ _ _)) dX12_row_32
    · skip
      refine lv_aload_n hx hb dX12_row_17 rfl (lv_at hl 0 rfl) ?_
      refine z_get C0 hP (C := RX12) (T := TX12) (N := 21) (ci := 10) (index := 192) (k := 92) (ref := "WetSuitPedalsShoesModel") (zk_lt (rfl : zk 92 = 10) (by decide)) (zd_10 E (rfl : zk 92 = 10) _) rfl (zmi inU_12) 9 (by decide) (zm flRX12_192) rfl (v := .int (nI m)) (congrArg (fun z => some (Value.int z)) (hm)) dX12_row_18 ?_
      refine lv_bipush (v := (12 : Int32)) hx hb dX12_row_21 (by decide) ?_
      refine z_N_ne hx hb (a := m) (b := 12) (tgt := 33) dX12_row_23 rfl rfl (by omega) (by omega) (by decide) (fun c_23 => ?_) (fun c_23 => ?_)
      · skip
        have e9 := (show ¬ 12 ≤ m by omega)
        refine lv_aload_n hx hb dX12_row_33 rfl (lv_at hl 0 rfl) ?_
        refine z_get C0 hP (C := RX12) (T := TX12) (N := 21) (ci := 10) (index := 25) (k := 92) (ref := "WetSuitPedalsShoesModel") (zk_lt (rfl : zk 92 = 10) (by decide)) (zd_10 E (rfl : zk 92 = 10) _) rfl (zmi inU_12) 6 (by decide) (zm flRX12_25) rfl (v := .ref (E.1 98)) (rfl) dX12_row_34 ?_
        refine lv_aload_n hx hb dX12_row_37 rfl (lv_at hl 0 rfl) ?_
        refine z_get C0 hP (C := RX12) (T := TX12) (N := 21) (ci := 10) (index := 192) (k := 92) (ref := "WetSuitPedalsShoesModel") (zk_lt (rfl : zk 92 = 10) (by decide)) (zd_10 E (rfl : zk 92 = 10) _) rfl (zmi inU_12) 9 (by decide) (zm flRX12_192) rfl (v := .int (nI m)) (congrArg (fun z => some (Value.int z)) (hm)) dX12_row_38 ?_
        refine lv_iload_n hx hb dX12_row_41 rfl (lv_at hl 1 rfl) ?_
        refine z_iast C0 hP hD hS (k := 98) (i := m) (v := v) (F := G 98) (rfl) (rfl : zk 98 = 11) (Nat.lt_of_lt_of_eq (show m < 12 by omega) (rfl : zl 98 = 12).symm) rfl dX12_row_42 (fun H locs hP hS => ?_)
        refine lv_aload_n hx hb dX12_row_43 rfl (lv_at hl 0 rfl) ?_
        refine lv_dup hx hb dX12_row_44 rfl ?_
        refine z_get C0 hP (C := RX12) (T := TX12) (N := 21) (ci := 10) (index := 192) (k := 92) (ref := "WetSuitPedalsShoesModel") (zk_lt (rfl : zk 92 = 10) (by decide)) (zd_10 E (rfl : zk 92 = 10) _) rfl (zmi inU_12) 9 (by decide) (zm flRX12_192) rfl (v := .int (nI m)) (congrArg (fun z => some (Value.int z)) ((congrFun (g1_n (by decide)) _).trans (hm))) dX12_row_45 ?_
        refine lv_iconst (v := (1 : Int32)) hx hb dX12_row_48 (by decide) ?_
        refine z_iadd hx hb (a := m) (b := 1) (n := m + 1) dX12_row_49 rfl rfl rfl ?_
        refine z_put C0 hP hD hS (C := RX12) (T := TX12) (N := 21) (ci := 10) (index := 192) (k := 92) (ref := "WetSuitPedalsShoesModel") (F := G 92) (ty := .int) (g1_n (by decide)) tyX12 tyX12_ok nmX12 (zk_lt (rfl : zk 92 = 10) (by decide)) (zd_10 E (rfl : zk 92 = 10) _) rfl (zmi inU_12) 9 (by decide) (zm flRX12_192) rfl rfl (by decide +kernel) (by rfl) rfl (by show 9 < 21; decide) (upd (G 92) 9 (nI (m + 1))) ((zd_10 E (rfl : zk 92 = 10) _).trans (rfl)) dX12_row_50 (fun H locs hP hS => ?_)
        refine lv_aload_n hx hb dX12_row_53 rfl (lv_at hl 0 rfl) ?_
        refine z_get C0 hP (C := RX12) (T := TX12) (N := 21) (ci := 10) (index := 192) (k := 92) (ref := "WetSuitPedalsShoesModel") (zk_lt (rfl : zk 92 = 10) (by decide)) (zd_10 E (rfl : zk 92 = 10) _) rfl (zmi inU_12) 9 (by decide) (zm flRX12_192) rfl (v := .int (nI (m + 1))) (congrArg (fun z => some (Value.int z)) ((congrFun (g1_s _ _ _) _).trans (pk_us))) dX12_row_54 ?_
        subst hQ_
        exact z_iret C0 hP hS (v := (nI (m + 1))) (by exact zRm_of (m := m + 1) (k := 0) (by simp [R_row, d_1, c_14, c_23, e9]) (fun k hk => (g1_n (by omega)).trans (g1_n (by omega))) (fun x hx => (congrFun (g1_s _ _ _) x).trans (pk_un hx)) ((congrFun (g1_s _ _ _) _).trans (pk_us)) ((g1_n (by decide)).trans (g1_s _ _ _)) ((g1_n (by decide)).trans (g1_n (by decide)))) dX12_row_57
      · skip
        have e9 := (show 12 ≤ m by omega)
        refine lv_aload_n hx hb dX12_row_26 rfl (lv_at hl 0 rfl) ?_
        refine lv_bipush (v := (-6 : Int32)) hx hb dX12_row_27 (by decide) ?_
        refine z_Vi C0 hP hD hA hS (As := [.int (-6 : Int32)]) (rest := []) (k := 92) (c_X12_no l E _ (-6 : Int32) 6 (by decide) (by decide)) (cwV 1 hts (zgV zbw mlRX12_56 imX12_no seX12_no iniRX12 coX12_no) rfl rfl rfl (by decide +kernel) ⟨Nat.le_of_ble_eq_true rfl, Nat.le_of_ble_eq_true rfl⟩) (zk_lt (rfl : zk 92 = 10) (by decide)) (zd_10 E (rfl : zk 92 = 10) _) rfl rfl rfl hl.1 rfl (Nat.le_of_ble_eq_true rfl) dX12_row_29 ⟨Nat.zero_le _, Nat.zero_le _⟩ (fun r2 G2 H locs hw2 hP hS => ?_)
        obtain ⟨rfl, rfl⟩ := hw2
        subst hQ_
        exact z_iret C0 hP hS (v := (-6 : Int32)) (by exact zRm_of (m := m) (k := 6) (by simp [R_row, d_1, c_14, c_23, e9]) (fun k hk => g1_n (by omega)) (fun x hx => congrFun (g1_n (by decide)) x) ((congrFun (g1_n (by decide)) _).trans (hm)) (g1_n (by decide)) (g1_s _ _ _)) dX12_row_32
  · skip
    have d_1 := Int32.not_le.mp c_1
    refine lv_aload_n hx hb dX12_row_4 rfl (lv_at hl 0 rfl) ?_
    refine lv_bipush (v := (-4 : Int32)) hx hb dX12_row_5 (by decide) ?_
    refine z_Vi C0 hP hD hA hS (As := [.int (-4 : Int32)]) (rest := []) (k := 92) (c_X12_no l E _ (-4 : Int32) 4 (by decide) (by decide)) (cwV 1 hts (zgV zbw mlRX12_56 imX12_no seX12_no iniRX12 coX12_no) rfl rfl rfl (by decide +kernel) ⟨Nat.le_of_ble_eq_true rfl, Nat.le_of_ble_eq_true rfl⟩) (zk_lt (rfl : zk 92 = 10) (by decide)) (zd_10 E (rfl : zk 92 = 10) _) rfl rfl rfl hl.1 rfl (Nat.le_of_ble_eq_true rfl) dX12_row_7 ⟨Nat.zero_le _, Nat.zero_le _⟩ (fun r3 G3 H locs hw3 hP hS => ?_)
    obtain ⟨rfl, rfl⟩ := hw3
    subst hQ_
    exact z_iret C0 hP hS (v := (-4 : Int32)) (by exact zRm_of (m := m) (k := 4) (by simp [R_row, d_1]) (fun k hk => g1_n (by omega)) (fun x hx => congrFun (g1_n (by decide)) x) ((congrFun (g1_n (by decide)) _).trans (hm)) (g1_n (by decide)) (g1_s _ _ _)) dX12_row_10
set_option maxHeartbeats 4000000 in
set_option maxRecDepth 100000 in
theorem c_X12_judge (l : Launch) (E : zE) (G : zG) (r : Nat → Int32) (n na : Nat) (athlete : Int32) (hM : G 93 = r) (hrn : r 0 = nI n) (hrna : r 1 = nI na) (hn10 : n ≤ 10) (hna : na ≤ 5) (m : Nat) (hm : G 92 9 = nI m) (hm12 : m ≤ 12) : zMi l yX12_judge wsX12_judge ({ frames := 6, cells := 0, slots := 0, locals := 142 } : Room) E G [.ref (E.1 92), .int athlete] (fun r1 G1 => zRm (R_judge r n na m (G 98) athlete) G r1 G1) := by
  refine zOf (cc := cX12_judge) (nL := 5) (ret := (some .int)) RX12 (by decide) rfl rfl (Nat.le_of_ble_eq_true rfl) ?_
  intro p_ e_ s_ m_ a_ b_ me_ c_ ls C0 hP hS hl
  have hx := C0.1
  have hb := C0.2.1
  have hts := C0.2.2.2.2.1
  have hD : zD E (zA E s_.heap.size) := C0.2.2.2.2.2.2.2.2
  have hA : ∀ q : Nat, s_.heap.size ≤ q → zA E s_.heap.size q := fun q h => Or.inr h
  refine z_gen (fun Q_ hQ_ => ?_)
  have hl : lv_has ls 5 [(0, .ref (E.1 92)), (1, .int athlete)] := hl
  refine lv_aload_n hx hb dX12_judge_0 rfl (lv_at hl 0 rfl) ?_
  refine lv_iload_n hx hb dX12_judge_1 rfl (lv_at hl 1 rfl) ?_
  refine z_Vi C0 hP hD hA hS (As := [.int athlete]) (rest := []) (k := 92) (c_X12_isAthlete l E _ na athlete ((congrFun (hM) _).trans (hrna)) (by omega)) (cwV 1 hts (zgV zbw mlRX12_136 imX12_isAthlete seX12_isAthlete iniRX12 coX12_isAthlete) rfl rfl rfl (by decide +kernel) ⟨Nat.le_of_ble_eq_true rfl, Nat.le_of_ble_eq_true rfl⟩) (zk_lt (rfl : zk 92 = 10) (by decide)) (zd_10 E (rfl : zk 92 = 10) _) rfl rfl rfl hl.1 rfl (Nat.le_of_ble_eq_true rfl) dX12_judge_2 ⟨Nat.zero_le _, Nat.zero_le _⟩ (fun r1 G1 H locs hw1 hP hS => ?_)
  rcases hw1 with ⟨rfl, rfl, ia, hia, rfl⟩ | ⟨rfl, rfl, hno1⟩
  · skip
    have hz_ia := zin_t hia (by omega)
    have hy_ia : zix (nI ia) = ia := zix_n (by omega)
    refine lv_if_ne (tgt := 14) hx hb dX12_judge_5 (by decide) (fun _ => ?_) (fun h_ => absurd h_ (by decide))
    refine lv_aload_n hx hb dX12_judge_14 rfl (lv_at hl 0 rfl) ?_
    refine z_get C0 hP (C := RX12) (T := TX12) (N := 21) (ci := 10) (index := 192) (k := 92) (ref := "WetSuitPedalsShoesModel") (zk_lt (rfl : zk 92 = 10) (by decide)) (zd_10 E (rfl : zk 92 = 10) _) rfl (zmi inU_12) 9 (by decide) (zm flRX12_192) rfl (v := .int (nI m)) (congrArg (fun z => some (Value.int z)) (hm)) dX12_judge_15 ?_
    refine lv_istore_n (lv' := [(2, .int (nI m)), (0, .ref (E.1 92)), (1, .int (nI ia))]) hx hb dX12_judge_18 rfl hl (by decide) rfl (fun ls hl => ?_)
    refine lv_aload_n hx hb dX12_judge_19 rfl (lv_at hl 1 rfl) ?_
    refine lv_iconst (v := (0 : Int32)) hx hb dX12_judge_20 (by decide) ?_
    refine z_put C0 hP hD hS (C := RX12) (T := TX12) (N := 21) (ci := 10) (index := 192) (k := 92) (ref := "WetSuitPedalsShoesModel") (F := G 92) (ty := .int) (rfl) tyX12 tyX12_ok nmX12 (zk_lt (rfl : zk 92 = 10) (by decide)) (zd_10 E (rfl : zk 92 = 10) _) rfl (zmi inU_12) 9 (by decide) (zm flRX12_192) rfl rfl (by decide +kernel) (by rfl) rfl (by show 9 < 21; decide) (upd (G 92) 9 (0 : Int32)) ((zd_10 E (rfl : zk 92 = 10) _).trans (rfl)) dX12_judge_21 (fun H locs hP hS => ?_)
    refine lv_aload_n hx hb dX12_judge_24 rfl (lv_at hl 1 rfl) ?_
    refine lv_aload_n hx hb dX12_judge_25 rfl (lv_at hl 1 rfl) ?_
    refine z_get C0 hP (C := RX12) (T := TX12) (N := 21) (ci := 10) (index := 9) (k := 92) (ref := "WetSuitPedalsShoesModel") (zk_lt (rfl : zk 92 = 10) (by decide)) (zd_10 E (rfl : zk 92 = 10) _) rfl (zmi inU_12) 0 (by decide) (zm flRX12_9) rfl (v := .ref (E.1 93)) (rfl) dX12_judge_26 ?_
    refine lv_iload_n hx hb dX12_judge_29 rfl (lv_at hl 2 rfl) ?_
    refine z_Vi C0 hP hD hA hS (As := [.ref (E.1 93), .int (nI ia)]) (rest := []) (k := 92) (c_X12_finishOf l E _ 93 ia n z_lit_Arr102_93 (by omega) ((congrFun ((g1_n (by decide)).trans (hM)) _).trans (hrn)) (by omega) (by omega)) (cwV 2 hts (zgV zbw mlRX12_156 imX12_finishOf seX12_finishOf iniRX12 coX12_finishOf) rfl rfl rfl (by decide +kernel) ⟨Nat.le_of_ble_eq_true rfl, Nat.le_of_ble_eq_true rfl⟩) (zk_lt (rfl : zk 92 = 10) (by decide)) (zd_10 E (rfl : zk 92 = 10) _) rfl rfl rfl hl.1 rfl (Nat.le_of_ble_eq_true rfl) dX12_judge_30 ⟨Nat.zero_le _, Nat.zero_le _⟩ (fun r2 G2 H locs hw2 hP hS => ?_)
    obtain ⟨hr2, hF2, hrow2⟩ := hw2
    rw [show (g1 G 92 (upd (G 92) 9 (0 : Int32))) 93 = r from (g1_n (by decide)).trans (hM)] at hr2 hrow2
    subst hr2
    refine lv_istore_n (lv' := [(3, .int (q_fin r n ia)), (2, .int (nI m)), (0, .ref (E.1 92)), (1, .int (nI ia))]) hx hb dX12_judge_33 rfl hl (by decide) rfl (fun ls hl => ?_)
    refine lv_iconst (v := (0 : Int32)) hx hb dX12_judge_34 (by decide) ?_
    refine lv_istore (lv' := [(4, .int (0 : Int32)), (3, .int (q_fin r n ia)), (2, .int (nI m)), (0, .ref (E.1 92)), (1, .int (nI ia))]) hx hb dX12_judge_35 hl (by decide) rfl (fun ls hl => ?_)
    have cut_37 : ∀ (fuel : Nat), ∀ (i : Nat) (H : Heap) (locs : List Loc) (ls : Array Slot), (i ≤ m) → (s_fst (fun k => decide (n ≤ k ∨ ¬ G 98 k = q_leg r ia k)) i = i) → zP E G2 H → va_S (zA E s_.heap.size) s_.heap H locs → lv_has ls 5 [(0, .ref (E.1 92)), (1, .int (nI ia)), (2, .int (nI m)), (3, .int (q_fin r n ia)), (4, .int (nI i))] → m - i < fuel → W p_ l e_ ({ frames := 6, cells := 0, slots := 0, locals := 142 } : Room) s_ m_ a_ b_ me_ c_ H locs 0 0 Q_ (F0 m_ 37 ls []) := by
      intro fuel
      induction fuel with
      | zero =>
        intro i  H locs ls hin hf hP hS hl hfu
        exact absurd hfu (Nat.not_lt_zero _)
      | succ fuel ih_37 =>
        intro i  H locs ls hin hf hP hS hl hfu_37
        refine lv_iload hx hb dX12_judge_37 (lv_at hl 4 rfl) ?_
        refine lv_iload_n hx hb dX12_judge_39 rfl (lv_at hl 2 rfl) ?_
        refine z_N_ge hx hb (a := i) (b := m) (tgt := 80) dX12_judge_40 rfl rfl (by omega) (by omega) (by decide) (fun c_40 => ?_) (fun c_40 => ?_)
        · skip
          refine lv_bipush (v := (-9 : Int32)) hx hb dX12_judge_80 (by decide) ?_
          subst hQ_
          exact z_iret C0 hP hS (v := (-9 : Int32)) (by have e9 : q_un (G 98) (q_leg r ia) n m = -9 := q_un_n hf (by omega); exact zRm_of (m := 0) (k := 0) (by simp [R_judge, hz_ia, hy_ia, c_40, e9]) (fun k hk => (hF2 k (by omega)).trans (g1_n (by omega))) (fun x hx => (congrFun ((hF2 _ (by decide)).trans (g1_s _ _ _)) x).trans (pk_un hx)) ((congrFun ((hF2 _ (by decide)).trans (g1_s _ _ _)) _).trans (pk_us)) ((hF2 _ (by decide)).trans (g1_n (by decide))) ((hF2 _ (by decide)).trans (g1_n (by decide)))) dX12_judge_82
        · skip
          refine lv_iload hx hb dX12_judge_43 (lv_at hl 4 rfl) ?_
          refine lv_aload_n hx hb dX12_judge_45 rfl (lv_at hl 0 rfl) ?_
          refine z_get C0 hP (C := RX12) (T := TX12) (N := 21) (ci := 10) (index := 9) (k := 92) (ref := "WetSuitPedalsShoesModel") (zk_lt (rfl : zk 92 = 10) (by decide)) (zd_10 E (rfl : zk 92 = 10) _) rfl (zmi inU_12) 0 (by decide) (zm flRX12_9) rfl (v := .ref (E.1 93)) (rfl) dX12_judge_46 ?_
          refine lv_iconst (v := (0 : Int32)) hx hb dX12_judge_49 (by decide) ?_
          refine z_iald C0 hP (k := 93) (i := 0) (v := (nI n)) (rfl : zk 93 = 11) (Nat.lt_of_lt_of_eq (show 0 < 102 by decide) (rfl : zl 93 = 102).symm) rfl dX12_judge_50 ((congrFun ((hF2 _ (by decide)).trans ((g1_n (by decide)).trans (hM))) _).trans (hrn)) ?_
          refine z_N_ge hx hb (a := i) (b := n) (tgt := 71) dX12_judge_51 rfl rfl (by omega) (by omega) (by decide) (fun c_51 => ?_) (fun c_51 => ?_)
          · skip
            refine lv_iload hx hb dX12_judge_71 (lv_at hl 4 rfl) ?_
            subst hQ_
            exact z_iret C0 hP hS (v := (nI i)) (by have e9 : q_un (G 98) (q_leg r ia) n m = nI i := q_un_y hf (by omega) (by first | exact Or.inl (by omega) | exact Or.inr (fun z => c_68 z.symm)); exact zRm_of (m := 0) (k := 0) (by simp [R_judge, hz_ia, hy_ia, c_40, c_51, e9]) (fun k hk => (hF2 k (by omega)).trans (g1_n (by omega))) (fun x hx => (congrFun ((hF2 _ (by decide)).trans (g1_s _ _ _)) x).trans (pk_un hx)) ((congrFun ((hF2 _ (by decide)).trans (g1_s _ _ _)) _).trans (pk_us)) ((hF2 _ (by decide)).trans (g1_n (by decide))) ((hF2 _ (by decide)).trans (g1_n (by decide)))) dX12_judge_73
          · skip
            refine lv_aload_n hx hb dX12_judge_54 rfl (lv_at hl 0 rfl) ?_
            refine z_get C0 hP (C := RX12) (T := TX12) (N := 21) (ci := 10) (index := 34) (k := 92) (ref := "WetSuitPedalsShoesModel") (zk_lt (rfl : zk 92 = 10) (by decide)) (zd_10 E (rfl : zk 92 = 10) _) rfl (zmi inU_12) 11 (by decide) (zm flRX12_34) rfl (v := .ref (E.1 101)) (rfl) dX12_judge_55 ?_
            refine lv_iload hx hb dX12_judge_58 (lv_at hl 4 rfl) ?_
            refine z_iald C0 hP (k := 101) (i := i) (v := (q_leg r ia i)) (rfl : zk 101 = 11) (Nat.lt_of_lt_of_eq (show i < 10 by omega) (rfl : zl 101 = 10).symm) rfl dX12_judge_60 ((hrow2 i (by omega)).2.1) ?_
            refine lv_aload_n hx hb dX12_judge_61 rfl (lv_at hl 0 rfl) ?_
            refine z_get C0 hP (C := RX12) (T := TX12) (N := 21) (ci := 10) (index := 25) (k := 92) (ref := "WetSuitPedalsShoesModel") (zk_lt (rfl : zk 92 = 10) (by decide)) (zd_10 E (rfl : zk 92 = 10) _) rfl (zmi inU_12) 6 (by decide) (zm flRX12_25) rfl (v := .ref (E.1 98)) (rfl) dX12_judge_62 ?_
            refine lv_iload hx hb dX12_judge_65 (lv_at hl 4 rfl) ?_
            refine z_iald C0 hP (k := 98) (i := i) (v := (G 98 i)) (rfl : zk 98 = 11) (Nat.lt_of_lt_of_eq (show i < 12 by omega) (rfl : zl 98 = 12).symm) rfl dX12_judge_67 (congrFun ((hF2 _ (by decide)).trans (g1_n (by decide))) _) ?_
            refine lv_icmp_eq (tgt := 74) hx hb dX12_judge_68 (by decide) (fun c_68 => ?_) (fun c_68 => ?_)
            · skip
              refine lv_iinc (v := (nI (i + 1))) (lv' := [(4, .int (nI (i + 1))), (0, .ref (E.1 92)), (1, .int (nI ia)), (2, .int (nI m)), (3, .int (q_fin r n ia))]) hx hb dX12_judge_74 hl (k := 4) rfl (z_inc (by decide)) (by decide) rfl (fun ls hl => ?_)
              refine lv_goto (tgt := 37) hx hb dX12_judge_77 (by decide) ?_
              exact ih_37 (i + 1) _ _ _ (by first | assumption | omega) (by exact s_fst_no hf (fun q => (of_decide_eq_true q).elim (fun z => absurd z (by omega)) (fun z => z c_68.symm))) hP hS (lv_sub hl [1, 2, 3, 4, 0] rfl) (by omega)
            · skip
              refine lv_iload hx hb dX12_judge_71 (lv_at hl 4 rfl) ?_
              subst hQ_
              exact z_iret C0 hP hS (v := (nI i)) (by have e9 : q_un (G 98) (q_leg r ia) n m = nI i := q_un_y hf (by omega) (by first | exact Or.inl (by omega) | exact Or.inr (fun z => c_68 z.symm)); exact zRm_of (m := 0) (k := 0) (by simp [R_judge, hz_ia, hy_ia, c_40, c_51, c_68, e9]) (fun k hk => (hF2 k (by omega)).trans (g1_n (by omega))) (fun x hx => (congrFun ((hF2 _ (by decide)).trans (g1_s _ _ _)) x).trans (pk_un hx)) ((congrFun ((hF2 _ (by decide)).trans (g1_s _ _ _)) _).trans (pk_us)) ((hF2 _ (by decide)).trans (g1_n (by decide))) ((hF2 _ (by decide)).trans (g1_n (by decide)))) dX12_judge_73
    exact cut_37 (_ + 1) 0 _ _ _ (by first | assumption | omega) (by rfl) hP hS (lv_sub hl [3, 4, 2, 1, 0] rfl) (Nat.lt_succ_self _)
  · skip
    have hz_ia := zin_f (by omega) hno1
    refine lv_if_ne (tgt := 14) hx hb dX12_judge_5 (by decide) (fun h_ => absurd (by decide) h_) (fun _ => ?_)
    refine lv_aload_n hx hb dX12_judge_8 rfl (lv_at hl 0 rfl) ?_
    refine lv_iconst (v := (-1 : Int32)) hx hb dX12_judge_9 (by decide) ?_
    refine z_Vi C0 hP hD hA hS (As := [.int (-1 : Int32)]) (rest := []) (k := 92) (c_X12_no l E _ (-1 : Int32) 1 (by decide) (by decide)) (cwV 1 hts (zgV zbw mlRX12_56 imX12_no seX12_no iniRX12 coX12_no) rfl rfl rfl (by decide +kernel) ⟨Nat.le_of_ble_eq_true rfl, Nat.le_of_ble_eq_true rfl⟩) (zk_lt (rfl : zk 92 = 10) (by decide)) (zd_10 E (rfl : zk 92 = 10) _) rfl rfl rfl hl.1 rfl (Nat.le_of_ble_eq_true rfl) dX12_judge_10 ⟨Nat.zero_le _, Nat.zero_le _⟩ (fun r3 G3 H locs hw3 hP hS => ?_)
    obtain ⟨rfl, rfl⟩ := hw3
    subst hQ_
    exact z_iret C0 hP hS (v := (-1 : Int32)) (by exact zRm_of (m := m) (k := 1) (by simp [R_judge, hz_ia]) (fun k hk => g1_n (by omega)) (fun x hx => congrFun (g1_n (by decide)) x) ((congrFun (g1_n (by decide)) _).trans (hm)) (g1_n (by decide)) (g1_s _ _ _)) dX12_judge_13
