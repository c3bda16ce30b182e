/-! laid by wip/whole/vcg.py -/
set_option maxHeartbeats 4000000 in
set_option maxRecDepth 100000 in
theorem c_X10_gone (l : Launch) (E : zE) (G : zG) (t n : Nat) (ht : zIs t tTri) (hn : G (t + 1) 0 = nI n) (hn10 : n ≤ 10) : zMi l yX10_gone wsX10_gone ({ frames := 0, cells := 0, slots := 0, locals := 0 } : Room) E G [.ref (E.1 t)] (fun r G1 => s_gone (G (t + 9)) n = r ∧ G = G1) := by
  refine zOf (cc := cX10_gone) (nL := 2) (ret := (some .int)) RX10 (by decide) rfl rfl (Nat.le_of_ble_eq_true rfl) ?_
  intro p_ e_ s_ m_ a_ b_ me_ c_ ls C0 hP hS hl
  have hx := C0.1
  have hb := C0.2.1
  have hts := C0.2.2.2.2.1
  have hD : zD E (zA E s_.heap.size) := C0.2.2.2.2.2.2.2.2
  have hA : ∀ q : Nat, s_.heap.size ≤ q → zA E s_.heap.size q := fun q h => Or.inr h
  refine z_gen (fun Q_ hQ_ => ?_)
  have hl : lv_has ls 2 [(0, .ref (E.1 t))] := hl
  refine lv_iconst (v := (0 : Int32)) hx hb dX10_gone_0 (by decide) ?_
  refine lv_istore_n (lv' := [(1, .int (0 : Int32)), (0, .ref (E.1 t))]) hx hb dX10_gone_1 rfl hl (by decide) rfl (fun ls hl => ?_)
  have cut_2 : ∀ (fuel : Nat), ∀ (i : Nat) (H : Heap) (locs : List Loc) (ls : Array Slot), (i ≤ n) → (s_fst (fun i => decide (G (t + 9) i = 0)) i = i) → zP E G H → va_S (zA E s_.heap.size) s_.heap H locs → lv_has ls 2 [(0, .ref (E.1 t)), (1, .int (nI i))] → n - i < fuel → W p_ l e_ ({ frames := 0, cells := 0, slots := 0, locals := 0 } : Room) s_ m_ a_ b_ me_ c_ H locs 0 0 Q_ (F0 m_ 2 ls []) := by
    intro fuel
    induction fuel with
    | zero =>
      intro i  H locs ls hin hf hP hS hl hfu
      exact absurd hfu (Nat.not_lt_zero _)
    | succ fuel ih_2 =>
      intro i  H locs ls hin hf hP hS hl hfu_2
      refine lv_iload_n hx hb dX10_gone_2 rfl (lv_at hl 1 rfl) ?_
      refine lv_aload_n hx hb dX10_gone_3 rfl (lv_at hl 0 rfl) ?_
      refine z_get C0 hP (C := RX10) (T := TX10) (N := 6) (ci := 8) (index := 12) (k := t) (ref := "WetSuitPedalsShoes$Trial") (zk_lt (ht (0, 8, 6) (by decide)).1 (by decide)) (zd_8 E (ht (0, 8, 6) (by decide)).1 _) rfl (zmi inU_10) 0 (by decide) (zm flRX10_12) rfl (v := .ref (E.1 (t + 1))) (rfl) dX10_gone_4 ?_
      refine z_get C0 hP (C := RX1) (T := TX1) (N := 4) (ci := 1) (index := 49) (k := (t + 1)) (ref := "WetSuitPedalsShoes$Course") (zk_lt (ht (1, 1, 4) (by decide)).1 (by decide)) (zd_1 E (ht (1, 1, 4) (by decide)).1 _) rfl (zmi inU_1) 0 (by decide) (zm flRX10_49) rfl (v := .int (nI n)) (congrArg (fun z => some (Value.int z)) (hn)) dX10_gone_7 ?_
      refine z_N_ge hx hb (a := i) (b := n) (tgt := 30) dX10_gone_10 rfl rfl (by omega) (by omega) (by decide) (fun c_10 => ?_) (fun c_10 => ?_)
      · skip
        refine lv_bipush (v := (-9 : Int32)) hx hb dX10_gone_30 (by decide) ?_
        subst hQ_
        exact z_iret C0 hP hS (v := (-9 : Int32)) (by refine ⟨?_, rfl⟩; have e8 : i = n := (by omega); subst e8; unfold s_gone; rw [hf, if_neg (by omega)]) dX10_gone_32
      · skip
        refine lv_aload_n hx hb dX10_gone_13 rfl (lv_at hl 0 rfl) ?_
        refine z_get C0 hP (C := RX10) (T := TX10) (N := 6) (ci := 8) (index := 33) (k := t) (ref := "WetSuitPedalsShoes$Trial") (zk_lt (ht (0, 8, 6) (by decide)).1 (by decide)) (zd_8 E (ht (0, 8, 6) (by decide)).1 _) rfl (zmi inU_10) 4 (by decide) (zm flRX10_33) rfl (v := .ref (E.1 (t + 9))) (rfl) dX10_gone_14 ?_
        refine lv_iload_n hx hb dX10_gone_17 rfl (lv_at hl 1 rfl) ?_
        refine z_iald C0 hP (k := (t + 9)) (i := i) (v := (G (t + 9) i)) (ht (9, 11, 10) (by decide)).1 (Nat.lt_of_lt_of_eq (show i < 10 by omega) (ht (9, 11, 10) (by decide)).2.symm) rfl dX10_gone_18 (rfl) ?_
        refine lv_if_ne (tgt := 24) hx hb dX10_gone_19 (by decide) (fun c_19 => ?_) (fun c_19 => ?_)
        · skip
          refine lv_iinc (v := (nI (i + 1))) (lv' := [(1, .int (nI (i + 1))), (0, .ref (E.1 t))]) hx hb dX10_gone_24 hl (k := 1) rfl (z_inc (by decide)) (by decide) rfl (fun ls hl => ?_)
          refine lv_goto (tgt := 2) hx hb dX10_gone_27 (by decide) ?_
          exact ih_2 (i + 1) _ _ _ (by first | assumption | omega) (by exact s_fst_no hf (by simp [c_10, c_19])) hP hS (lv_sub hl [1, 0] rfl) (by omega)
        · skip
          refine lv_iload_n hx hb dX10_gone_22 rfl (lv_at hl 1 rfl) ?_
          subst hQ_
          exact z_iret C0 hP hS (v := (nI i)) (by refine ⟨?_, rfl⟩; have e9 := s_fst_yes (n := n) hf (by simp [c_10, c_19]) (by omega); unfold s_gone; rw [e9, if_pos (by omega)]) dX10_gone_23
  exact cut_2 (_ + 1) 0 _ _ _ (by first | assumption | omega) (by rfl) hP hS (lv_sub hl [1, 0] rfl) (Nat.lt_succ_self _)
set_option maxHeartbeats 4000000 in
set_option maxRecDepth 100000 in
theorem c_X10_sectionAt (l : Launch) (E : zE) (G : zG) (t n : Nat) (x : Int32) (ht : zIs t tTri) (hn : G (t + 1) 0 = nI n) (hn10 : n ≤ 10) : zMi l yX10_sectionAt wsX10_sectionAt ({ frames := 0, cells := 0, slots := 0, locals := 0 } : Room) E G [.ref (E.1 t), .int x] (fun r G1 => s_at (G (t + 10)) x n = r ∧ G = G1) := by
  refine zOf (cc := cX10_sectionAt) (nL := 3) (ret := (some .int)) RX10 (by decide) rfl rfl (Nat.le_of_ble_eq_true rfl) ?_
  intro p_ e_ s_ m_ a_ b_ me_ c_ ls C0 hP hS hl
  have hx := C0.1
  have hb := C0.2.1
  have hts := C0.2.2.2.2.1
  have hD : zD E (zA E s_.heap.size) := C0.2.2.2.2.2.2.2.2
  have hA : ∀ q : Nat, s_.heap.size ≤ q → zA E s_.heap.size q := fun q h => Or.inr h
  refine z_gen (fun Q_ hQ_ => ?_)
  have hl : lv_has ls 3 [(0, .ref (E.1 t)), (1, .int x)] := hl
  refine lv_iconst (v := (0 : Int32)) hx hb dX10_sectionAt_0 (by decide) ?_
  refine lv_istore_n (lv' := [(2, .int (0 : Int32)), (0, .ref (E.1 t)), (1, .int x)]) hx hb dX10_sectionAt_1 rfl hl (by decide) rfl (fun ls hl => ?_)
  have cut_2 : ∀ (fuel : Nat), ∀ (i : Nat) (H : Heap) (locs : List Loc) (ls : Array Slot), (i ≤ n) → (s_fst (fun i => decide (x < G (t + 10) i)) i = i) → zP E G H → va_S (zA E s_.heap.size) s_.heap H locs → lv_has ls 3 [(0, .ref (E.1 t)), (1, .int x), (2, .int (nI i))] → n - i < fuel → W p_ l e_ ({ frames := 0, cells := 0, slots := 0, locals := 0 } : Room) s_ m_ a_ b_ me_ c_ H locs 0 0 Q_ (F0 m_ 2 ls []) := by
    intro fuel
    induction fuel with
    | zero =>
      intro i  H locs ls hin hf hP hS hl hfu
      exact absurd hfu (Nat.not_lt_zero _)
    | succ fuel ih_2 =>
      intro i  H locs ls hin hf hP hS hl hfu_2
      refine lv_iload_n hx hb dX10_sectionAt_2 rfl (lv_at hl 2 rfl) ?_
      refine lv_aload_n hx hb dX10_sectionAt_3 rfl (lv_at hl 0 rfl) ?_
      refine z_get C0 hP (C := RX10) (T := TX10) (N := 6) (ci := 8) (index := 12) (k := t) (ref := "WetSuitPedalsShoes$Trial") (zk_lt (ht (0, 8, 6) (by decide)).1 (by decide)) (zd_8 E (ht (0, 8, 6) (by decide)).1 _) rfl (zmi inU_10) 0 (by decide) (zm flRX10_12) rfl (v := .ref (E.1 (t + 1))) (rfl) dX10_sectionAt_4 ?_
      refine z_get C0 hP (C := RX1) (T := TX1) (N := 4) (ci := 1) (index := 49) (k := (t + 1)) (ref := "WetSuitPedalsShoes$Course") (zk_lt (ht (1, 1, 4) (by decide)).1 (by decide)) (zd_1 E (ht (1, 1, 4) (by decide)).1 _) rfl (zmi inU_1) 0 (by decide) (zm flRX10_49) rfl (v := .int (nI n)) (congrArg (fun z => some (Value.int z)) (hn)) dX10_sectionAt_7 ?_
      refine z_N_ge hx hb (a := i) (b := n) (tgt := 31) dX10_sectionAt_10 rfl rfl (by omega) (by omega) (by decide) (fun c_10 => ?_) (fun c_10 => ?_)
      · skip
        refine lv_aload_n hx hb dX10_sectionAt_31 rfl (lv_at hl 0 rfl) ?_
        refine z_get C0 hP (C := RX10) (T := TX10) (N := 6) (ci := 8) (index := 12) (k := t) (ref := "WetSuitPedalsShoes$Trial") (zk_lt (ht (0, 8, 6) (by decide)).1 (by decide)) (zd_8 E (ht (0, 8, 6) (by decide)).1 _) rfl (zmi inU_10) 0 (by decide) (zm flRX10_12) rfl (v := .ref (E.1 (t + 1))) (rfl) dX10_sectionAt_32 ?_
        refine z_get C0 hP (C := RX1) (T := TX1) (N := 4) (ci := 1) (index := 49) (k := (t + 1)) (ref := "WetSuitPedalsShoes$Course") (zk_lt (ht (1, 1, 4) (by decide)).1 (by decide)) (zd_1 E (ht (1, 1, 4) (by decide)).1 _) rfl (zmi inU_1) 0 (by decide) (zm flRX10_49) rfl (v := .int (nI n)) (congrArg (fun z => some (Value.int z)) (hn)) dX10_sectionAt_35 ?_
        subst hQ_
        exact z_iret C0 hP hS (v := (nI n)) (by refine ⟨?_, rfl⟩; have e8 : i = n := (by omega); subst e8; unfold s_at; rw [hf]) dX10_sectionAt_38
      · skip
        refine lv_iload_n hx hb dX10_sectionAt_13 rfl (lv_at hl 1 rfl) ?_
        refine lv_aload_n hx hb dX10_sectionAt_14 rfl (lv_at hl 0 rfl) ?_
        refine z_get C0 hP (C := RX10) (T := TX10) (N := 6) (ci := 8) (index := 36) (k := t) (ref := "WetSuitPedalsShoes$Trial") (zk_lt (ht (0, 8, 6) (by decide)).1 (by decide)) (zd_8 E (ht (0, 8, 6) (by decide)).1 _) rfl (zmi inU_10) 5 (by decide) (zm flRX10_36) rfl (v := .ref (E.1 (t + 10))) (rfl) dX10_sectionAt_15 ?_
        refine lv_iload_n hx hb dX10_sectionAt_18 rfl (lv_at hl 2 rfl) ?_
        refine z_iald C0 hP (k := (t + 10)) (i := i) (v := (G (t + 10) i)) (ht (10, 11, 10) (by decide)).1 (Nat.lt_of_lt_of_eq (show i < 10 by omega) (ht (10, 11, 10) (by decide)).2.symm) rfl dX10_sectionAt_19 (rfl) ?_
        refine lv_icmp_ge (tgt := 25) hx hb dX10_sectionAt_20 (by decide) (fun c_20 => ?_) (fun c_20 => ?_)
        · skip
          have d_20 := Int32.not_lt.mpr c_20
          refine lv_iinc (v := (nI (i + 1))) (lv' := [(2, .int (nI (i + 1))), (0, .ref (E.1 t)), (1, .int x)]) hx hb dX10_sectionAt_25 hl (k := 2) rfl (z_inc (by decide)) (by decide) rfl (fun ls hl => ?_)
          refine lv_goto (tgt := 2) hx hb dX10_sectionAt_28 (by decide) ?_
          exact ih_2 (i + 1) _ _ _ (by first | assumption | omega) (by exact s_fst_no hf (by simp [c_10, d_20])) hP hS (lv_sub hl [1, 2, 0] rfl) (by omega)
        · skip
          have d_20 := Int32.not_le.mp c_20
          refine lv_iload_n hx hb dX10_sectionAt_23 rfl (lv_at hl 2 rfl) ?_
          subst hQ_
          exact z_iret C0 hP hS (v := (nI i)) (by refine ⟨?_, rfl⟩; have e9 := s_fst_yes (n := n) hf (by simp [c_10, d_20]) (by omega); unfold s_at; rw [e9]) dX10_sectionAt_24
  exact cut_2 (_ + 1) 0 _ _ _ (by first | assumption | omega) (by rfl) hP hS (lv_sub hl [1, 2, 0] rfl) (Nat.lt_succ_self _)
set_option maxHeartbeats 4000000 in
set_option maxRecDepth 100000 in
theorem c_X10_isPastIn (l : Launch) (E : zE) (G : zG) (t i u : Nat) (ht : zIs t tTri) (hu : zIs u tTri) (hi : i < 10) : zMi l yX10_isPastIn wsX10_isPastIn ({ frames := 0, cells := 0, slots := 0, locals := 0 } : Room) E G [.ref (E.1 t), .int (nI i), .ref (E.1 u)] (fun r G1 => (if s_past (G (t + 10)) (G (u + 10)) i = true then 1 else 0) = r ∧ G = G1) := by
  refine zOf (cc := cX10_isPastIn) (nL := 3) (ret := (some .boolean)) RX10 (by decide) rfl rfl (Nat.le_of_ble_eq_true rfl) ?_
  intro p_ e_ s_ m_ a_ b_ me_ c_ ls C0 hP hS hl
  have hx := C0.1
  have hb := C0.2.1
  have hts := C0.2.2.2.2.1
  have hD : zD E (zA E s_.heap.size) := C0.2.2.2.2.2.2.2.2
  have hA : ∀ q : Nat, s_.heap.size ≤ q → zA E s_.heap.size q := fun q h => Or.inr h
  refine z_gen (fun Q_ hQ_ => ?_)
  have hl : lv_has ls 3 [(0, .ref (E.1 t)), (1, .int (nI i)), (2, .ref (E.1 u))] := hl
  refine lv_iload_n hx hb dX10_isPastIn_0 rfl (lv_at hl 1 rfl) ?_
  refine z_0_ne hx hb (a := i) (tgt := 6) dX10_isPastIn_1 rfl (by omega) (by decide) (fun c_1 => ?_) (fun c_1 => ?_)
  · skip
    have e_1 := (show 0 < i by omega)
    refine lv_aload_n hx hb dX10_isPastIn_6 rfl (lv_at hl 0 rfl) ?_
    refine z_get C0 hP (C := RX10) (T := TX10) (N := 6) (ci := 8) (index := 36) (k := t) (ref := "WetSuitPedalsShoes$Trial") (zk_lt (ht (0, 8, 6) (by decide)).1 (by decide)) (zd_8 E (ht (0, 8, 6) (by decide)).1 _) rfl (zmi inU_10) 5 (by decide) (zm flRX10_36) rfl (v := .ref (E.1 (t + 10))) (rfl) dX10_isPastIn_7 ?_
    refine lv_iload_n hx hb dX10_isPastIn_10 rfl (lv_at hl 1 rfl) ?_
    refine lv_iconst (v := (1 : Int32)) hx hb dX10_isPastIn_11 (by decide) ?_
    refine z_isub hx hb (a := i) (b := 1) (n := i - 1) dX10_isPastIn_12 rfl rfl (by omega) (by omega) ?_
    refine z_iald C0 hP (k := (t + 10)) (i := i - 1) (v := (G (t + 10) (i - 1))) (ht (10, 11, 10) (by decide)).1 (Nat.lt_of_lt_of_eq (show i - 1 < 10 by omega) (ht (10, 11, 10) (by decide)).2.symm) rfl dX10_isPastIn_13 (rfl) ?_
    refine lv_aload_n hx hb dX10_isPastIn_14 rfl (lv_at hl 2 rfl) ?_
    refine z_get C0 hP (C := RX10) (T := TX10) (N := 6) (ci := 8) (index := 36) (k := u) (ref := "WetSuitPedalsShoes$Trial") (zk_lt (hu (0, 8, 6) (by decide)).1 (by decide)) (zd_8 E (hu (0, 8, 6) (by decide)).1 _) rfl (zmi inU_10) 5 (by decide) (zm flRX10_36) rfl (v := .ref (E.1 (u + 10))) (rfl) dX10_isPastIn_15 ?_
    refine lv_iload_n hx hb dX10_isPastIn_18 rfl (lv_at hl 1 rfl) ?_
    refine lv_iconst (v := (1 : Int32)) hx hb dX10_isPastIn_19 (by decide) ?_
    refine z_isub hx hb (a := i) (b := 1) (n := i - 1) dX10_isPastIn_20 rfl rfl (by omega) (by omega) ?_
    refine z_iald C0 hP (k := (u + 10)) (i := i - 1) (v := (G (u + 10) (i - 1))) (hu (10, 11, 10) (by decide)).1 (Nat.lt_of_lt_of_eq (show i - 1 < 10 by omega) (hu (10, 11, 10) (by decide)).2.symm) rfl dX10_isPastIn_21 (rfl) ?_
    refine lv_icmp_le (tgt := 44) hx hb dX10_isPastIn_22 (by decide) (fun c_22 => ?_) (fun c_22 => ?_)
    · skip
      have d_22 := Int32.not_lt.mpr c_22
      refine lv_iconst (v := (0 : Int32)) hx hb dX10_isPastIn_44 (by decide) ?_
      subst hQ_
      exact z_zret C0 hP hS (v := (0 : Int32)) (by decide) (by refine ⟨?_, rfl⟩; simp [s_past, c_1, e_1, d_22]) dX10_isPastIn_45
    · skip
      have d_22 := Int32.not_le.mp c_22
      refine lv_aload_n hx hb dX10_isPastIn_25 rfl (lv_at hl 0 rfl) ?_
      refine z_get C0 hP (C := RX10) (T := TX10) (N := 6) (ci := 8) (index := 36) (k := t) (ref := "WetSuitPedalsShoes$Trial") (zk_lt (ht (0, 8, 6) (by decide)).1 (by decide)) (zd_8 E (ht (0, 8, 6) (by decide)).1 _) rfl (zmi inU_10) 5 (by decide) (zm flRX10_36) rfl (v := .ref (E.1 (t + 10))) (rfl) dX10_isPastIn_26 ?_
      refine lv_iload_n hx hb dX10_isPastIn_29 rfl (lv_at hl 1 rfl) ?_
      refine z_iald C0 hP (k := (t + 10)) (i := i) (v := (G (t + 10) i)) (ht (10, 11, 10) (by decide)).1 (Nat.lt_of_lt_of_eq (show i < 10 by omega) (ht (10, 11, 10) (by decide)).2.symm) rfl dX10_isPastIn_30 (rfl) ?_
      refine lv_aload_n hx hb dX10_isPastIn_31 rfl (lv_at hl 2 rfl) ?_
      refine z_get C0 hP (C := RX10) (T := TX10) (N := 6) (ci := 8) (index := 36) (k := u) (ref := "WetSuitPedalsShoes$Trial") (zk_lt (hu (0, 8, 6) (by decide)).1 (by decide)) (zd_8 E (hu (0, 8, 6) (by decide)).1 _) rfl (zmi inU_10) 5 (by decide) (zm flRX10_36) rfl (v := .ref (E.1 (u + 10))) (rfl) dX10_isPastIn_32 ?_
      refine lv_iload_n hx hb dX10_isPastIn_35 rfl (lv_at hl 1 rfl) ?_
      refine z_iald C0 hP (k := (u + 10)) (i := i) (v := (G (u + 10) i)) (hu (10, 11, 10) (by decide)).1 (Nat.lt_of_lt_of_eq (show i < 10 by omega) (hu (10, 11, 10) (by decide)).2.symm) rfl dX10_isPastIn_36 (rfl) ?_
      refine lv_icmp_ge (tgt := 44) hx hb dX10_isPastIn_37 (by decide) (fun c_37 => ?_) (fun c_37 => ?_)
      · skip
        have d_37 := Int32.not_lt.mpr c_37
        refine lv_iconst (v := (0 : Int32)) hx hb dX10_isPastIn_44 (by decide) ?_
        subst hQ_
        exact z_zret C0 hP hS (v := (0 : Int32)) (by decide) (by refine ⟨?_, rfl⟩; simp [s_past, c_1, e_1, d_22, d_37]) dX10_isPastIn_45
      · skip
        have d_37 := Int32.not_le.mp c_37
        refine lv_iconst (v := (1 : Int32)) hx hb dX10_isPastIn_40 (by decide) ?_
        refine lv_goto (tgt := 45) hx hb dX10_isPastIn_41 (by decide) ?_
        subst hQ_
        exact z_zret C0 hP hS (v := (1 : Int32)) (by decide) (by refine ⟨?_, rfl⟩; simp [s_past, c_1, e_1, d_22, d_37]) dX10_isPastIn_45
  · skip
    have e_1 := (show ¬ 0 < i by omega)
    refine lv_iconst (v := (0 : Int32)) hx hb dX10_isPastIn_4 (by decide) ?_
    subst hQ_
    exact z_zret C0 hP hS (v := (0 : Int32)) (by decide) (by refine ⟨?_, rfl⟩; simp [s_past, c_1, e_1]) dX10_isPastIn_5
theorem mlRX10_92 : Cond.methodLink RX10 92 yX10_isPastIn ∈ zU := zU_m 532 (by decide +kernel) rfl
theorem coX10_isPastIn : Cond.code yX10_isPastIn cX10_isPastIn 3 (some .boolean) ∈ zU := zU_m 535 (by decide +kernel) rfl
theorem imX10_isPastIn : Cond.instanceMethod yX10_isPastIn ∈ zU := zU_m 534 (by decide +kernel) rfl
theorem seX10_isPastIn : Cond.selects RX10 yX10_isPastIn yX10_isPastIn ∈ zU := zU_m 12 (by decide +kernel) rfl
theorem iniRX10 : Cond.initialized RX10 ∈ zU := zU_m 54 (by decide +kernel) rfl
set_option maxHeartbeats 4000000 in
set_option maxRecDepth 100000 in
theorem c_X10_howOftenPast (l : Launch) (E : zE) (G : zG) (t n u : Nat) (ht : zIs t tTri) (hn : G (t + 1) 0 = nI n) (hn10 : n ≤ 10) (hu : zIs u tTri) : zMi l yX10_howOftenPast wsX10_howOftenPast ({ frames := 1, cells := 0, slots := 0, locals := 22 } : Room) E G [.ref (E.1 t), .ref (E.1 u)] (fun r G1 => nI (s_cnt (s_past (G (t + 10)) (G (u + 10))) n) = r ∧ G = G1) := by
  refine zOf (cc := cX10_howOftenPast) (nL := 4) (ret := (some .int)) RX10 (by decide) rfl rfl (Nat.le_of_ble_eq_true rfl) ?_
  intro p_ e_ s_ m_ a_ b_ me_ c_ ls C0 hP hS hl
  have hx := C0.1
  have hb := C0.2.1
  have hts := C0.2.2.2.2.1
  have hD : zD E (zA E s_.heap.size) := C0.2.2.2.2.2.2.2.2
  have hA : ∀ q : Nat, s_.heap.size ≤ q → zA E s_.heap.size q := fun q h => Or.inr h
  refine z_gen (fun Q_ hQ_ => ?_)
  have hl : lv_has ls 4 [(0, .ref (E.1 t)), (1, .ref (E.1 u))] := hl
  refine lv_iconst (v := (0 : Int32)) hx hb dX10_howOftenPast_0 (by decide) ?_
  refine lv_istore_n (lv' := [(2, .int (0 : Int32)), (0, .ref (E.1 t)), (1, .ref (E.1 u))]) hx hb dX10_howOftenPast_1 rfl hl (by decide) rfl (fun ls hl => ?_)
  refine lv_iconst (v := (0 : Int32)) hx hb dX10_howOftenPast_2 (by decide) ?_
  refine lv_istore_n (lv' := [(3, .int (0 : Int32)), (2, .int (0 : Int32)), (0, .ref (E.1 t)), (1, .ref (E.1 u))]) hx hb dX10_howOftenPast_3 rfl hl (by decide) rfl (fun ls hl => ?_)
  have cut_4 : ∀ (fuel : Nat), ∀ (i k : Nat) (H : Heap) (locs : List Loc) (ls : Array Slot), (i ≤ n) → (k = s_cnt (s_past (G (t + 10)) (G (u + 10))) i) → zP E G H → va_S (zA E s_.heap.size) s_.heap H locs → lv_has ls 4 [(0, .ref (E.1 t)), (1, .ref (E.1 u)), (2, .int (nI k)), (3, .int (nI i))] → n - i < fuel → W p_ l e_ ({ frames := 1, cells := 0, slots := 0, locals := 22 } : Room) s_ m_ a_ b_ me_ c_ H locs 0 0 Q_ (F0 m_ 4 ls []) := by
    intro fuel
    induction fuel with
    | zero =>
      intro i k  H locs ls hin hk hP hS hl hfu
      exact absurd hfu (Nat.not_lt_zero _)
    | succ fuel ih_4 =>
      intro i k  H locs ls hin hk hP hS hl hfu_4
      refine lv_iload_n hx hb dX10_howOftenPast_4 rfl (lv_at hl 3 rfl) ?_
      refine lv_aload_n hx hb dX10_howOftenPast_5 rfl (lv_at hl 0 rfl) ?_
      refine z_get C0 hP (C := RX10) (T := TX10) (N := 6) (ci := 8) (index := 12) (k := t) (ref := "WetSuitPedalsShoes$Trial") (zk_lt (ht (0, 8, 6) (by decide)).1 (by decide)) (zd_8 E (ht (0, 8, 6) (by decide)).1 _) rfl (zmi inU_10) 0 (by decide) (zm flRX10_12) rfl (v := .ref (E.1 (t + 1))) (rfl) dX10_howOftenPast_6 ?_
      refine z_get C0 hP (C := RX1) (T := TX1) (N := 4) (ci := 1) (index := 49) (k := (t + 1)) (ref := "WetSuitPedalsShoes$Course") (zk_lt (ht (1, 1, 4) (by decide)).1 (by decide)) (zd_1 E (ht (1, 1, 4) (by decide)).1 _) rfl (zmi inU_1) 0 (by decide) (zm flRX10_49) rfl (v := .int (nI n)) (congrArg (fun z => some (Value.int z)) (hn)) dX10_howOftenPast_9 ?_
      refine z_N_ge hx hb (a := i) (b := n) (tgt := 33) dX10_howOftenPast_12 rfl rfl (by omega) (by omega) (by decide) (fun c_12 => ?_) (fun c_12 => ?_)
      · skip
        refine lv_iload_n hx hb dX10_howOftenPast_33 rfl (lv_at hl 2 rfl) ?_
        subst hQ_
        exact z_iret C0 hP hS (v := (nI k)) (by refine ⟨?_, rfl⟩; rw [hk, show i = n by omega]) dX10_howOftenPast_34
      · skip
        refine lv_aload_n hx hb dX10_howOftenPast_15 rfl (lv_at hl 0 rfl) ?_
        refine lv_iload_n hx hb dX10_howOftenPast_16 rfl (lv_at hl 3 rfl) ?_
        refine lv_aload_n hx hb dX10_howOftenPast_17 rfl (lv_at hl 1 rfl) ?_
        refine z_Vi C0 hP hD hA hS (As := [.int (nI i), .ref (E.1 u)]) (rest := []) (k := t) (c_X10_isPastIn l E _ t i u ht hu (by omega)) (cwV 2 hts (zgV zbw mlRX10_92 imX10_isPastIn seX10_isPastIn iniRX10 coX10_isPastIn) rfl rfl rfl (by decide +kernel) ⟨Nat.le_of_ble_eq_true rfl, Nat.le_of_ble_eq_true rfl⟩) (zk_lt (ht (0, 8, 6) (by decide)).1 (by decide)) (zd_8 E (ht (0, 8, 6) (by decide)).1 _) rfl rfl rfl hl.1 rfl (Nat.le_of_ble_eq_true rfl) dX10_howOftenPast_18 ⟨Nat.zero_le _, Nat.zero_le _⟩ (fun r1 G1 H locs hw1 hP hS => ?_)
        obtain ⟨hr1, rfl⟩ := hw1
        subst hr1
        refine lv_if_eq (tgt := 27) hx hb dX10_howOftenPast_21 (by decide) (fun c_21 => ?_) (fun c_21 => ?_)
        · skip
          refine lv_iinc (v := (nI (i + 1))) (lv' := [(3, .int (nI (i + 1))), (0, .ref (E.1 t)), (1, .ref (E.1 u)), (2, .int (nI k))]) hx hb dX10_howOftenPast_27 hl (k := 3) rfl (z_inc (by decide)) (by decide) rfl (fun ls hl => ?_)
          refine lv_goto (tgt := 4) hx hb dX10_howOftenPast_30 (by decide) ?_
          exact ih_4 (i + 1) k _ _ _ (by first | assumption | omega) (by rw [hk]; exact (s_cnt_n (s_if0 c_21)).symm) hP hS (lv_sub hl [1, 2, 3, 0] rfl) (by omega)
        · skip
          refine lv_iinc (v := (nI (k + 1))) (lv' := [(2, .int (nI (k + 1))), (0, .ref (E.1 t)), (1, .ref (E.1 u)), (3, .int (nI i))]) hx hb dX10_howOftenPast_24 hl (k := 2) rfl (z_inc (by decide)) (by decide) rfl (fun ls hl => ?_)
          refine lv_iinc (v := (nI (i + 1))) (lv' := [(3, .int (nI (i + 1))), (2, .int (nI (k + 1))), (0, .ref (E.1 t)), (1, .ref (E.1 u))]) hx hb dX10_howOftenPast_27 hl (k := 3) rfl (z_inc (by decide)) (by decide) rfl (fun ls hl => ?_)
          refine lv_goto (tgt := 4) hx hb dX10_howOftenPast_30 (by decide) ?_
          exact ih_4 (i + 1) (k + 1) _ _ _ (by first | assumption | omega) (by rw [hk]; exact (s_cnt_y (s_if1 c_21)).symm) hP hS (lv_sub hl [2, 3, 1, 0] rfl) (by omega)
  exact cut_4 (_ + 1) 0 0 _ _ _ (by first | assumption | omega) (by rfl) hP hS (lv_sub hl [2, 3, 1, 0] rfl) (Nat.lt_succ_self _)
set_option maxHeartbeats 4000000 in
set_option maxRecDepth 100000 in
theorem c_X10_firstPast (l : Launch) (E : zE) (G : zG) (t n u : Nat) (ht : zIs t tTri) (hn : G (t + 1) 0 = nI n) (hn10 : n ≤ 10) (hu : zIs u tTri) : zMi l yX10_firstPast wsX10_firstPast ({ frames := 1, cells := 0, slots := 0, locals := 22 } : Room) E G [.ref (E.1 t), .ref (E.1 u)] (fun r G1 => s_first9 (s_fst (s_past (G (t + 10)) (G (u + 10))) n) n = r ∧ G = G1) := by
  refine zOf (cc := cX10_firstPast) (nL := 3) (ret := (some .int)) RX10 (by decide) rfl rfl (Nat.le_of_ble_eq_true rfl) ?_
  intro p_ e_ s_ m_ a_ b_ me_ c_ ls C0 hP hS hl
  have hx := C0.1
  have hb := C0.2.1
  have hts := C0.2.2.2.2.1
  have hD : zD E (zA E s_.heap.size) := C0.2.2.2.2.2.2.2.2
  have hA : ∀ q : Nat, s_.heap.size ≤ q → zA E s_.heap.size q := fun q h => Or.inr h
  refine z_gen (fun Q_ hQ_ => ?_)
  have hl : lv_has ls 3 [(0, .ref (E.1 t)), (1, .ref (E.1 u))] := hl
  refine lv_iconst (v := (0 : Int32)) hx hb dX10_firstPast_0 (by decide) ?_
  refine lv_istore_n (lv' := [(2, .int (0 : Int32)), (0, .ref (E.1 t)), (1, .ref (E.1 u))]) hx hb dX10_firstPast_1 rfl hl (by decide) rfl (fun ls hl => ?_)
  have cut_2 : ∀ (fuel : Nat), ∀ (i : Nat) (H : Heap) (locs : List Loc) (ls : Array Slot), (i ≤ n) → (s_fst (s_past (G (t + 10)) (G (u + 10))) i = i) → zP E G H → va_S (zA E s_.heap.size) s_.heap H locs → lv_has ls 3 [(0, .ref (E.1 t)), (1, .ref (E.1 u)), (2, .int (nI i))] → n - i < fuel → W p_ l e_ ({ frames := 1, cells := 0, slots := 0, locals := 22 } : Room) s_ m_ a_ b_ me_ c_ H locs 0 0 Q_ (F0 m_ 2 ls []) := by
    intro fuel
    induction fuel with
    | zero =>
      intro i  H locs ls hin hf hP hS hl hfu
      exact absurd hfu (Nat.not_lt_zero _)
    | succ fuel ih_2 =>
      intro i  H locs ls hin hf hP hS hl hfu_2
      refine lv_iload_n hx hb dX10_firstPast_2 rfl (lv_at hl 2 rfl) ?_
      refine lv_aload_n hx hb dX10_firstPast_3 rfl (lv_at hl 0 rfl) ?_
      refine z_get C0 hP (C := RX10) (T := TX10) (N := 6) (ci := 8) (index := 12) (k := t) (ref := "WetSuitPedalsShoes$Trial") (zk_lt (ht (0, 8, 6) (by decide)).1 (by decide)) (zd_8 E (ht (0, 8, 6) (by decide)).1 _) rfl (zmi inU_10) 0 (by decide) (zm flRX10_12) rfl (v := .ref (E.1 (t + 1))) (rfl) dX10_firstPast_4 ?_
      refine z_get C0 hP (C := RX1) (T := TX1) (N := 4) (ci := 1) (index := 49) (k := (t + 1)) (ref := "WetSuitPedalsShoes$Course") (zk_lt (ht (1, 1, 4) (by decide)).1 (by decide)) (zd_1 E (ht (1, 1, 4) (by decide)).1 _) rfl (zmi inU_1) 0 (by decide) (zm flRX10_49) rfl (v := .int (nI n)) (congrArg (fun z => some (Value.int z)) (hn)) dX10_firstPast_7 ?_
      refine z_N_ge hx hb (a := i) (b := n) (tgt := 30) dX10_firstPast_10 rfl rfl (by omega) (by omega) (by decide) (fun c_10 => ?_) (fun c_10 => ?_)
      · skip
        refine lv_bipush (v := (-9 : Int32)) hx hb dX10_firstPast_30 (by decide) ?_
        subst hQ_
        exact z_iret C0 hP hS (v := (-9 : Int32)) (by refine ⟨?_, rfl⟩; have e8 : i = n := (by omega); subst e8; unfold s_first9; rw [hf, if_neg (by omega)]) dX10_firstPast_32
      · skip
        refine lv_aload_n hx hb dX10_firstPast_13 rfl (lv_at hl 0 rfl) ?_
        refine lv_iload_n hx hb dX10_firstPast_14 rfl (lv_at hl 2 rfl) ?_
        refine lv_aload_n hx hb dX10_firstPast_15 rfl (lv_at hl 1 rfl) ?_
        refine z_Vi C0 hP hD hA hS (As := [.int (nI i), .ref (E.1 u)]) (rest := []) (k := t) (c_X10_isPastIn l E _ t i u ht hu (by omega)) (cwV 2 hts (zgV zbw mlRX10_92 imX10_isPastIn seX10_isPastIn iniRX10 coX10_isPastIn) rfl rfl rfl (by decide +kernel) ⟨Nat.le_of_ble_eq_true rfl, Nat.le_of_ble_eq_true rfl⟩) (zk_lt (ht (0, 8, 6) (by decide)).1 (by decide)) (zd_8 E (ht (0, 8, 6) (by decide)).1 _) rfl rfl rfl hl.1 rfl (Nat.le_of_ble_eq_true rfl) dX10_firstPast_16 ⟨Nat.zero_le _, Nat.zero_le _⟩ (fun r1 G1 H locs hw1 hP hS => ?_)
        obtain ⟨hr1, rfl⟩ := hw1
        subst hr1
        refine lv_if_eq (tgt := 24) hx hb dX10_firstPast_19 (by decide) (fun c_19 => ?_) (fun c_19 => ?_)
        · skip
          refine lv_iinc (v := (nI (i + 1))) (lv' := [(2, .int (nI (i + 1))), (0, .ref (E.1 t)), (1, .ref (E.1 u))]) hx hb dX10_firstPast_24 hl (k := 2) rfl (z_inc (by decide)) (by decide) rfl (fun ls hl => ?_)
          refine lv_goto (tgt := 2) hx hb dX10_firstPast_27 (by decide) ?_
          exact ih_2 (i + 1) _ _ _ (by first | assumption | omega) (by exact s_fst_no hf (s_if0 c_19)) hP hS (lv_sub hl [1, 2, 0] rfl) (by omega)
        · skip
          refine lv_iload_n hx hb dX10_firstPast_22 rfl (lv_at hl 2 rfl) ?_
          subst hQ_
          exact z_iret C0 hP hS (v := (nI i)) (by refine ⟨?_, rfl⟩; have e9 := s_fst_yes (n := n) hf (s_if1 c_19) (by omega); unfold s_first9; rw [e9, if_pos (by omega)]) dX10_firstPast_23
  exact cut_2 (_ + 1) 0 _ _ _ (by first | assumption | omega) (by rfl) hP hS (lv_sub hl [1, 2, 0] rfl) (Nat.lt_succ_self _)
set_option maxHeartbeats 4000000 in
set_option maxRecDepth 100000 in
theorem c_X10_slowest (l : Launch) (E : zE) (G : zG) (t n : Nat) (ht : zIs t tTri) (hn : G (t + 1) 0 = nI n) (hn10 : n ≤ 10) : zMi l yX10_slowest wsX10_slowest ({ frames := 0, cells := 0, slots := 0, locals := 0 } : Room) E G [.ref (E.1 t)] (fun r G1 => s_or9 (s_slow (G (t + 8)) (G (t + 4)) n) = r ∧ G = G1) := by
  refine zOf (cc := cX10_slowest) (nL := 3) (ret := (some .int)) RX10 (by decide) rfl rfl (Nat.le_of_ble_eq_true rfl) ?_
  intro p_ e_ s_ m_ a_ b_ me_ c_ ls C0 hP hS hl
  have hx := C0.1
  have hb := C0.2.1
  have hts := C0.2.2.2.2.1
  have hD : zD E (zA E s_.heap.size) := C0.2.2.2.2.2.2.2.2
  have hA : ∀ q : Nat, s_.heap.size ≤ q → zA E s_.heap.size q := fun q h => Or.inr h
  refine z_gen (fun Q_ hQ_ => ?_)
  have hl : lv_has ls 3 [(0, .ref (E.1 t))] := hl
  refine lv_bipush (v := (-9 : Int32)) hx hb dX10_slowest_0 (by decide) ?_
  refine lv_istore_n (lv' := [(1, .int (-9 : Int32)), (0, .ref (E.1 t))]) hx hb dX10_slowest_2 rfl hl (by decide) rfl (fun ls hl => ?_)
  refine lv_iconst (v := (0 : Int32)) hx hb dX10_slowest_3 (by decide) ?_
  refine lv_istore_n (lv' := [(2, .int (0 : Int32)), (1, .int (-9 : Int32)), (0, .ref (E.1 t))]) hx hb dX10_slowest_4 rfl hl (by decide) rfl (fun ls hl => ?_)
  have cut_5 : ∀ (fuel : Nat), ∀ (i m : Nat) (mo : Int32) (H : Heap) (locs : List Loc) (ls : Array Slot), (i ≤ n) → (m = s_slow (G (t + 8)) (G (t + 4)) i) → (mo = s_or9 m) → zP E G H → va_S (zA E s_.heap.size) s_.heap H locs → lv_has ls 3 [(0, .ref (E.1 t)), (1, .int mo), (2, .int (nI i))] → n - i < fuel → W p_ l e_ ({ frames := 0, cells := 0, slots := 0, locals := 0 } : Room) s_ m_ a_ b_ me_ c_ H locs 0 0 Q_ (F0 m_ 5 ls []) := by
    intro fuel
    induction fuel with
    | zero =>
      intro i m  mo  H locs ls hin hm hmo hP hS hl hfu
      exact absurd hfu (Nat.not_lt_zero _)
    | succ fuel ih_5 =>
      intro i m  mo  H locs ls hin hm hmo hP hS hl hfu_5
      refine lv_iload_n hx hb dX10_slowest_5 rfl (lv_at hl 2 rfl) ?_
      refine lv_aload_n hx hb dX10_slowest_6 rfl (lv_at hl 0 rfl) ?_
      refine z_get C0 hP (C := RX10) (T := TX10) (N := 6) (ci := 8) (index := 12) (k := t) (ref := "WetSuitPedalsShoes$Trial") (zk_lt (ht (0, 8, 6) (by decide)).1 (by decide)) (zd_8 E (ht (0, 8, 6) (by decide)).1 _) rfl (zmi inU_10) 0 (by decide) (zm flRX10_12) rfl (v := .ref (E.1 (t + 1))) (rfl) dX10_slowest_7 ?_
      refine z_get C0 hP (C := RX1) (T := TX1) (N := 4) (ci := 1) (index := 49) (k := (t + 1)) (ref := "WetSuitPedalsShoes$Course") (zk_lt (ht (1, 1, 4) (by decide)).1 (by decide)) (zd_1 E (ht (1, 1, 4) (by decide)).1 _) rfl (zmi inU_1) 0 (by decide) (zm flRX10_49) rfl (v := .int (nI n)) (congrArg (fun z => some (Value.int z)) (hn)) dX10_slowest_10 ?_
      refine z_N_ge hx hb (a := i) (b := n) (tgt := 65) dX10_slowest_13 rfl rfl (by omega) (by omega) (by decide) (fun c_13 => ?_) (fun c_13 => ?_)
      · skip
        refine lv_iload_n hx hb dX10_slowest_65 rfl (lv_at hl 1 rfl) ?_
        subst hQ_
        exact z_iret C0 hP hS (v := mo) (by refine ⟨?_, rfl⟩; rw [hmo, hm, show i = n by omega]) dX10_slowest_66
      · skip
        refine lv_iload_n hx hb dX10_slowest_16 rfl (lv_at hl 1 rfl) ?_
        refine lv_bipush (v := (-9 : Int32)) hx hb dX10_slowest_17 (by decide) ?_
        refine lv_icmp_eq (tgt := 57) hx hb dX10_slowest_19 (by decide) (fun c_19 => ?_) (fun c_19 => ?_)
        · skip
          refine lv_iload_n hx hb dX10_slowest_57 rfl (lv_at hl 2 rfl) ?_
          refine lv_istore_n (lv' := [(1, .int (nI i)), (0, .ref (E.1 t)), (2, .int (nI i))]) hx hb dX10_slowest_58 rfl hl (by decide) rfl (fun ls hl => ?_)
          refine lv_iinc (v := (nI (i + 1))) (lv' := [(2, .int (nI (i + 1))), (1, .int (nI i)), (0, .ref (E.1 t))]) hx hb dX10_slowest_59 hl (k := 2) rfl (z_inc (by decide)) (by decide) rfl (fun ls hl => ?_)
          refine lv_goto (tgt := 5) hx hb dX10_slowest_62 (by decide) ?_
          exact ih_5 (i + 1) (s_slow (G (t + 8)) (G (t + 4)) (i + 1)) (nI i) _ _ _ (by first | assumption | omega) (by rfl) (by have e9 : s_slow (G (t + 8)) (G (t + 4)) (i + 1) = i := if_pos (by first | exact Or.inl (hm ▸ s_or9_n (hmo.symm.trans c_19) (by rcases s_slow_lt (sc := G (t + 8)) (ln := G (t + 4)) (i := i) with q | q <;> omega)) | exact Or.inr (hm ▸ d_54)); rw [e9]; unfold s_or9; rw [if_neg (by omega)]) hP hS (lv_sub hl [2, 1, 0] rfl) (by omega)
        · skip
          have hm2 : ¬ m = 99 := fun q => c_19 (by rw [hmo]; unfold s_or9; rw [if_pos q])
          have hm3 : m < i := by rcases s_slow_lt (sc := G (t + 8)) (ln := G (t + 4)) (i := i) with q | q <;> omega
          have hm4 : mo = nI m := by rw [hmo]; unfold s_or9; rw [if_neg hm2]
          subst hm4
          refine lv_aload_n hx hb dX10_slowest_22 rfl (lv_at hl 0 rfl) ?_
          refine z_get C0 hP (C := RX10) (T := TX10) (N := 6) (ci := 8) (index := 29) (k := t) (ref := "WetSuitPedalsShoes$Trial") (zk_lt (ht (0, 8, 6) (by decide)).1 (by decide)) (zd_8 E (ht (0, 8, 6) (by decide)).1 _) rfl (zmi inU_10) 3 (by decide) (zm flRX10_29) rfl (v := .ref (E.1 (t + 8))) (rfl) dX10_slowest_23 ?_
          refine lv_iload_n hx hb dX10_slowest_26 rfl (lv_at hl 2 rfl) ?_
          refine z_iald C0 hP (k := (t + 8)) (i := i) (v := (G (t + 8) i)) (ht (8, 11, 10) (by decide)).1 (Nat.lt_of_lt_of_eq (show i < 10 by omega) (ht (8, 11, 10) (by decide)).2.symm) rfl dX10_slowest_27 (rfl) ?_
          refine lv_aload_n hx hb dX10_slowest_28 rfl (lv_at hl 0 rfl) ?_
          refine z_get C0 hP (C := RX10) (T := TX10) (N := 6) (ci := 8) (index := 12) (k := t) (ref := "WetSuitPedalsShoes$Trial") (zk_lt (ht (0, 8, 6) (by decide)).1 (by decide)) (zd_8 E (ht (0, 8, 6) (by decide)).1 _) rfl (zmi inU_10) 0 (by decide) (zm flRX10_12) rfl (v := .ref (E.1 (t + 1))) (rfl) dX10_slowest_29 ?_
          refine z_get C0 hP (C := RX1) (T := TX1) (N := 4) (ci := 1) (index := 68) (k := (t + 1)) (ref := "WetSuitPedalsShoes$Course") (zk_lt (ht (1, 1, 4) (by decide)).1 (by decide)) (zd_1 E (ht (1, 1, 4) (by decide)).1 _) rfl (zmi inU_1) 3 (by decide) (zm flRX10_68) rfl (v := .ref (E.1 (t + 4))) (rfl) dX10_slowest_32 ?_
          refine lv_iload_n hx hb dX10_slowest_35 rfl (lv_at hl 1 rfl) ?_
          refine z_iald C0 hP (k := (t + 4)) (i := m) (v := (G (t + 4) m)) (ht (4, 11, 10) (by decide)).1 (Nat.lt_of_lt_of_eq (show m < 10 by omega) (ht (4, 11, 10) (by decide)).2.symm) rfl dX10_slowest_36 (rfl) ?_
          refine lv_imul hx hb dX10_slowest_37 ?_
          refine lv_aload_n hx hb dX10_slowest_38 rfl (lv_at hl 0 rfl) ?_
          refine z_get C0 hP (C := RX10) (T := TX10) (N := 6) (ci := 8) (index := 29) (k := t) (ref := "WetSuitPedalsShoes$Trial") (zk_lt (ht (0, 8, 6) (by decide)).1 (by decide)) (zd_8 E (ht (0, 8, 6) (by decide)).1 _) rfl (zmi inU_10) 3 (by decide) (zm flRX10_29) rfl (v := .ref (E.1 (t + 8))) (rfl) dX10_slowest_39 ?_
          refine lv_iload_n hx hb dX10_slowest_42 rfl (lv_at hl 1 rfl) ?_
          refine z_iald C0 hP (k := (t + 8)) (i := m) (v := (G (t + 8) m)) (ht (8, 11, 10) (by decide)).1 (Nat.lt_of_lt_of_eq (show m < 10 by omega) (ht (8, 11, 10) (by decide)).2.symm) rfl dX10_slowest_43 (rfl) ?_
          refine lv_aload_n hx hb dX10_slowest_44 rfl (lv_at hl 0 rfl) ?_
          refine z_get C0 hP (C := RX10) (T := TX10) (N := 6) (ci := 8) (index := 12) (k := t) (ref := "WetSuitPedalsShoes$Trial") (zk_lt (ht (0, 8, 6) (by decide)).1 (by decide)) (zd_8 E (ht (0, 8, 6) (by decide)).1 _) rfl (zmi inU_10) 0 (by decide) (zm flRX10_12) rfl (v := .ref (E.1 (t + 1))) (rfl) dX10_slowest_45 ?_
          refine z_get C0 hP (C := RX1) (T := TX1) (N := 4) (ci := 1) (index := 68) (k := (t + 1)) (ref := "WetSuitPedalsShoes$Course") (zk_lt (ht (1, 1, 4) (by decide)).1 (by decide)) (zd_1 E (ht (1, 1, 4) (by decide)).1 _) rfl (zmi inU_1) 3 (by decide) (zm flRX10_68) rfl (v := .ref (E.1 (t + 4))) (rfl) dX10_slowest_48 ?_
          refine lv_iload_n hx hb dX10_slowest_51 rfl (lv_at hl 2 rfl) ?_
          refine z_iald C0 hP (k := (t + 4)) (i := i) (v := (G (t + 4) i)) (ht (4, 11, 10) (by decide)).1 (Nat.lt_of_lt_of_eq (show i < 10 by omega) (ht (4, 11, 10) (by decide)).2.symm) rfl dX10_slowest_52 (rfl) ?_
          refine lv_imul hx hb dX10_slowest_53 ?_
          refine lv_icmp_le (tgt := 59) hx hb dX10_slowest_54 (by decide) (fun c_54 => ?_) (fun c_54 => ?_)
          · skip
            have d_54 := Int32.not_lt.mpr c_54
            refine lv_iinc (v := (nI (i + 1))) (lv' := [(2, .int (nI (i + 1))), (0, .ref (E.1 t)), (1, .int (nI m))]) hx hb dX10_slowest_59 hl (k := 2) rfl (z_inc (by decide)) (by decide) rfl (fun ls hl => ?_)
            refine lv_goto (tgt := 5) hx hb dX10_slowest_62 (by decide) ?_
            exact ih_5 (i + 1) (s_slow (G (t + 8)) (G (t + 4)) (i + 1)) (nI m) _ _ _ (by first | assumption | omega) (by rfl) (by have e9 : s_slow (G (t + 8)) (G (t + 4)) (i + 1) = m := (if_neg (fun q => by rw [← hm] at q; rcases q with q | q; (exact hm2 q); (exact d_54 q))).trans hm.symm; rw [e9]; unfold s_or9; rw [if_neg hm2]) hP hS (lv_sub hl [1, 2, 0] rfl) (by omega)
          · skip
            have d_54 := Int32.not_le.mp c_54
            refine lv_iload_n hx hb dX10_slowest_57 rfl (lv_at hl 2 rfl) ?_
            refine lv_istore_n (lv' := [(1, .int (nI i)), (0, .ref (E.1 t)), (2, .int (nI i))]) hx hb dX10_slowest_58 rfl hl (by decide) rfl (fun ls hl => ?_)
            refine lv_iinc (v := (nI (i + 1))) (lv' := [(2, .int (nI (i + 1))), (1, .int (nI i)), (0, .ref (E.1 t))]) hx hb dX10_slowest_59 hl (k := 2) rfl (z_inc (by decide)) (by decide) rfl (fun ls hl => ?_)
            refine lv_goto (tgt := 5) hx hb dX10_slowest_62 (by decide) ?_
            exact ih_5 (i + 1) (s_slow (G (t + 8)) (G (t + 4)) (i + 1)) (nI i) _ _ _ (by first | assumption | omega) (by rfl) (by have e9 : s_slow (G (t + 8)) (G (t + 4)) (i + 1) = i := if_pos (by first | exact Or.inl (hm ▸ s_or9_n (hmo.symm.trans c_19) (by rcases s_slow_lt (sc := G (t + 8)) (ln := G (t + 4)) (i := i) with q | q <;> omega)) | exact Or.inr (hm ▸ d_54)); rw [e9]; unfold s_or9; rw [if_neg (by omega)]) hP hS (lv_sub hl [2, 1, 0] rfl) (by omega)
  exact cut_5 (_ + 1) 0 (s_slow (G (t + 8)) (G (t + 4)) 0) (-9 : Int32) _ _ _ (by first | assumption | omega) (by rfl) (by rfl) hP hS (lv_sub hl [2, 1, 0] rfl) (Nat.lt_succ_self _)
set_option maxHeartbeats 4000000 in
set_option maxRecDepth 100000 in
theorem c_X10_secondsOfChanges (l : Launch) (E : zE) (G : zG) (t n : Nat) (ht : zIs t tTri) (hn : G (t + 1) 0 = nI n) (hn10 : n ≤ 10) : zMi l yX10_secondsOfChanges wsX10_secondsOfChanges ({ frames := 0, cells := 0, slots := 0, locals := 0 } : Room) E G [.ref (E.1 t)] (fun r G1 => s_chs (G (t + 2)) (G (t + 8)) n = r ∧ G = G1) := by
  refine zOf (cc := cX10_secondsOfChanges) (nL := 3) (ret := (some .int)) RX10 (by decide) rfl rfl (Nat.le_of_ble_eq_true rfl) ?_
  intro p_ e_ s_ m_ a_ b_ me_ c_ ls C0 hP hS hl
  have hx := C0.1
  have hb := C0.2.1
  have hts := C0.2.2.2.2.1
  have hD : zD E (zA E s_.heap.size) := C0.2.2.2.2.2.2.2.2
  have hA : ∀ q : Nat, s_.heap.size ≤ q → zA E s_.heap.size q := fun q h => Or.inr h
  refine z_gen (fun Q_ hQ_ => ?_)
  have hl : lv_has ls 3 [(0, .ref (E.1 t))] := hl
  refine lv_iconst (v := (0 : Int32)) hx hb dX10_secondsOfChanges_0 (by decide) ?_
  refine lv_istore_n (lv' := [(1, .int (0 : Int32)), (0, .ref (E.1 t))]) hx hb dX10_secondsOfChanges_1 rfl hl (by decide) rfl (fun ls hl => ?_)
  refine lv_iconst (v := (0 : Int32)) hx hb dX10_secondsOfChanges_2 (by decide) ?_
  refine lv_istore_n (lv' := [(2, .int (0 : Int32)), (1, .int (0 : Int32)), (0, .ref (E.1 t))]) hx hb dX10_secondsOfChanges_3 rfl hl (by decide) rfl (fun ls hl => ?_)
  have cut_4 : ∀ (fuel : Nat), ∀ (i : Nat) (sm : Int32) (H : Heap) (locs : List Loc) (ls : Array Slot), (i ≤ n) → (sm = s_chs (G (t + 2)) (G (t + 8)) i) → zP E G H → va_S (zA E s_.heap.size) s_.heap H locs → lv_has ls 3 [(0, .ref (E.1 t)), (1, .int sm), (2, .int (nI i))] → n - i < fuel → W p_ l e_ ({ frames := 0, cells := 0, slots := 0, locals := 0 } : Room) s_ m_ a_ b_ me_ c_ H locs 0 0 Q_ (F0 m_ 4 ls []) := by
    intro fuel
    induction fuel with
    | zero =>
      intro i  sm  H locs ls hin hs hP hS hl hfu
      exact absurd hfu (Nat.not_lt_zero _)
    | succ fuel ih_4 =>
      intro i  sm  H locs ls hin hs hP hS hl hfu_4
      refine lv_iload_n hx hb dX10_secondsOfChanges_4 rfl (lv_at hl 2 rfl) ?_
      refine lv_aload_n hx hb dX10_secondsOfChanges_5 rfl (lv_at hl 0 rfl) ?_
      refine z_get C0 hP (C := RX10) (T := TX10) (N := 6) (ci := 8) (index := 12) (k := t) (ref := "WetSuitPedalsShoes$Trial") (zk_lt (ht (0, 8, 6) (by decide)).1 (by decide)) (zd_8 E (ht (0, 8, 6) (by decide)).1 _) rfl (zmi inU_10) 0 (by decide) (zm flRX10_12) rfl (v := .ref (E.1 (t + 1))) (rfl) dX10_secondsOfChanges_6 ?_
      refine z_get C0 hP (C := RX1) (T := TX1) (N := 4) (ci := 1) (index := 49) (k := (t + 1)) (ref := "WetSuitPedalsShoes$Course") (zk_lt (ht (1, 1, 4) (by decide)).1 (by decide)) (zd_1 E (ht (1, 1, 4) (by decide)).1 _) rfl (zmi inU_1) 0 (by decide) (zm flRX10_49) rfl (v := .int (nI n)) (congrArg (fun z => some (Value.int z)) (hn)) dX10_secondsOfChanges_9 ?_
      refine z_N_ge hx hb (a := i) (b := n) (tgt := 44) dX10_secondsOfChanges_12 rfl rfl (by omega) (by omega) (by decide) (fun c_12 => ?_) (fun c_12 => ?_)
      · skip
        refine lv_iload_n hx hb dX10_secondsOfChanges_44 rfl (lv_at hl 1 rfl) ?_
        subst hQ_
        exact z_iret C0 hP hS (v := sm) (by refine ⟨?_, rfl⟩; rw [hs, show i = n by omega]) dX10_secondsOfChanges_45
      · skip
        refine lv_aload_n hx hb dX10_secondsOfChanges_15 rfl (lv_at hl 0 rfl) ?_
        refine z_get C0 hP (C := RX10) (T := TX10) (N := 6) (ci := 8) (index := 12) (k := t) (ref := "WetSuitPedalsShoes$Trial") (zk_lt (ht (0, 8, 6) (by decide)).1 (by decide)) (zd_8 E (ht (0, 8, 6) (by decide)).1 _) rfl (zmi inU_10) 0 (by decide) (zm flRX10_12) rfl (v := .ref (E.1 (t + 1))) (rfl) dX10_secondsOfChanges_16 ?_
        refine z_get C0 hP (C := RX1) (T := TX1) (N := 4) (ci := 1) (index := 65) (k := (t + 1)) (ref := "WetSuitPedalsShoes$Course") (zk_lt (ht (1, 1, 4) (by decide)).1 (by decide)) (zd_1 E (ht (1, 1, 4) (by decide)).1 _) rfl (zmi inU_1) 1 (by decide) (zm flRX10_65) rfl (v := .ref (E.1 (t + 2))) (rfl) dX10_secondsOfChanges_19 ?_
        refine lv_iload_n hx hb dX10_secondsOfChanges_22 rfl (lv_at hl 2 rfl) ?_
        refine z_iald C0 hP (k := (t + 2)) (i := i) (v := (G (t + 2) i)) (ht (2, 11, 10) (by decide)).1 (Nat.lt_of_lt_of_eq (show i < 10 by omega) (ht (2, 11, 10) (by decide)).2.symm) rfl dX10_secondsOfChanges_23 (rfl) ?_
        refine lv_bipush (v := (6 : Int32)) hx hb dX10_secondsOfChanges_24 (by decide) ?_
        refine lv_icmp_ne (tgt := 38) hx hb dX10_secondsOfChanges_26 (by decide) (fun c_26 => ?_) (fun c_26 => ?_)
        · skip
          refine lv_iinc (v := (nI (i + 1))) (lv' := [(2, .int (nI (i + 1))), (0, .ref (E.1 t)), (1, .int sm)]) hx hb dX10_secondsOfChanges_38 hl (k := 2) rfl (z_inc (by decide)) (by decide) rfl (fun ls hl => ?_)
          refine lv_goto (tgt := 4) hx hb dX10_secondsOfChanges_41 (by decide) ?_
          exact ih_4 (i + 1) sm _ _ _ (by first | assumption | omega) (by rw [hs]; exact (s_chs_n c_26).symm) hP hS (lv_sub hl [1, 2, 0] rfl) (by omega)
        · skip
          refine lv_iload_n hx hb dX10_secondsOfChanges_29 rfl (lv_at hl 1 rfl) ?_
          refine lv_aload_n hx hb dX10_secondsOfChanges_30 rfl (lv_at hl 0 rfl) ?_
          refine z_get C0 hP (C := RX10) (T := TX10) (N := 6) (ci := 8) (index := 29) (k := t) (ref := "WetSuitPedalsShoes$Trial") (zk_lt (ht (0, 8, 6) (by decide)).1 (by decide)) (zd_8 E (ht (0, 8, 6) (by decide)).1 _) rfl (zmi inU_10) 3 (by decide) (zm flRX10_29) rfl (v := .ref (E.1 (t + 8))) (rfl) dX10_secondsOfChanges_31 ?_
          refine lv_iload_n hx hb dX10_secondsOfChanges_34 rfl (lv_at hl 2 rfl) ?_
          refine z_iald C0 hP (k := (t + 8)) (i := i) (v := (G (t + 8) i)) (ht (8, 11, 10) (by decide)).1 (Nat.lt_of_lt_of_eq (show i < 10 by omega) (ht (8, 11, 10) (by decide)).2.symm) rfl dX10_secondsOfChanges_35 (rfl) ?_
          refine lv_iadd hx hb dX10_secondsOfChanges_36 ?_
          refine lv_istore_n (lv' := [(1, .int (sm + (G (t + 8) i))), (0, .ref (E.1 t)), (2, .int (nI i))]) hx hb dX10_secondsOfChanges_37 rfl hl (by decide) rfl (fun ls hl => ?_)
          refine lv_iinc (v := (nI (i + 1))) (lv' := [(2, .int (nI (i + 1))), (1, .int (sm + (G (t + 8) i))), (0, .ref (E.1 t))]) hx hb dX10_secondsOfChanges_38 hl (k := 2) rfl (z_inc (by decide)) (by decide) rfl (fun ls hl => ?_)
          refine lv_goto (tgt := 4) hx hb dX10_secondsOfChanges_41 (by decide) ?_
          exact ih_4 (i + 1) (sm + (G (t + 8) i)) _ _ _ (by first | assumption | omega) (by rw [hs]; exact (s_chs_y c_26).symm) hP hS (lv_sub hl [2, 1, 0] rfl) (by omega)
  exact cut_4 (_ + 1) 0 (0 : Int32) _ _ _ (by first | assumption | omega) (by rfl) hP hS (lv_sub hl [2, 1, 0] rfl) (Nat.lt_succ_self _)
set_option maxHeartbeats 4000000 in
set_option maxRecDepth 100000 in
theorem c_X10_legsAtFinish (l : Launch) (E : zE) (G : zG) (t n : Nat) (ht : zIs t tTri) (hn : G (t + 1) 0 = nI n) (hn10 : n ≤ 10) : zMi l yX10_legsAtFinish wsX10_legsAtFinish ({ frames := 0, cells := 0, slots := 0, locals := 0 } : Room) E G [.ref (E.1 t)] (fun r G1 => (if n = 0 then G (t + 6) 3 else G (t + 9) (n - 1)) = r ∧ G = G1) := by
  refine zOf (cc := cX10_legsAtFinish) (nL := 1) (ret := (some .int)) RX10 (by decide) rfl rfl (Nat.le_of_ble_eq_true rfl) ?_
  intro p_ e_ s_ m_ a_ b_ me_ c_ ls C0 hP hS hl
  have hx := C0.1
  have hb := C0.2.1
  have hts := C0.2.2.2.2.1
  have hD : zD E (zA E s_.heap.size) := C0.2.2.2.2.2.2.2.2
  have hA : ∀ q : Nat, s_.heap.size ≤ q → zA E s_.heap.size q := fun q h => Or.inr h
  refine z_gen (fun Q_ hQ_ => ?_)
  have hl : lv_has ls 1 [(0, .ref (E.1 t))] := hl
  refine lv_aload_n hx hb dX10_legsAtFinish_0 rfl (lv_at hl 0 rfl) ?_
  refine z_get C0 hP (C := RX10) (T := TX10) (N := 6) (ci := 8) (index := 12) (k := t) (ref := "WetSuitPedalsShoes$Trial") (zk_lt (ht (0, 8, 6) (by decide)).1 (by decide)) (zd_8 E (ht (0, 8, 6) (by decide)).1 _) rfl (zmi inU_10) 0 (by decide) (zm flRX10_12) rfl (v := .ref (E.1 (t + 1))) (rfl) dX10_legsAtFinish_1 ?_
  refine z_get C0 hP (C := RX1) (T := TX1) (N := 4) (ci := 1) (index := 49) (k := (t + 1)) (ref := "WetSuitPedalsShoes$Course") (zk_lt (ht (1, 1, 4) (by decide)).1 (by decide)) (zd_1 E (ht (1, 1, 4) (by decide)).1 _) rfl (zmi inU_1) 0 (by decide) (zm flRX10_49) rfl (v := .int (nI n)) (congrArg (fun z => some (Value.int z)) (hn)) dX10_legsAtFinish_4 ?_
  refine z_0_ne hx hb (a := n) (tgt := 22) dX10_legsAtFinish_7 rfl (by omega) (by decide) (fun c_7 => ?_) (fun c_7 => ?_)
  · skip
    refine lv_aload_n hx hb dX10_legsAtFinish_22 rfl (lv_at hl 0 rfl) ?_
    refine z_get C0 hP (C := RX10) (T := TX10) (N := 6) (ci := 8) (index := 33) (k := t) (ref := "WetSuitPedalsShoes$Trial") (zk_lt (ht (0, 8, 6) (by decide)).1 (by decide)) (zd_8 E (ht (0, 8, 6) (by decide)).1 _) rfl (zmi inU_10) 4 (by decide) (zm flRX10_33) rfl (v := .ref (E.1 (t + 9))) (rfl) dX10_legsAtFinish_23 ?_
    refine lv_aload_n hx hb dX10_legsAtFinish_26 rfl (lv_at hl 0 rfl) ?_
    refine z_get C0 hP (C := RX10) (T := TX10) (N := 6) (ci := 8) (index := 12) (k := t) (ref := "WetSuitPedalsShoes$Trial") (zk_lt (ht (0, 8, 6) (by decide)).1 (by decide)) (zd_8 E (ht (0, 8, 6) (by decide)).1 _) rfl (zmi inU_10) 0 (by decide) (zm flRX10_12) rfl (v := .ref (E.1 (t + 1))) (rfl) dX10_legsAtFinish_27 ?_
    refine z_get C0 hP (C := RX1) (T := TX1) (N := 4) (ci := 1) (index := 49) (k := (t + 1)) (ref := "WetSuitPedalsShoes$Course") (zk_lt (ht (1, 1, 4) (by decide)).1 (by decide)) (zd_1 E (ht (1, 1, 4) (by decide)).1 _) rfl (zmi inU_1) 0 (by decide) (zm flRX10_49) rfl (v := .int (nI n)) (congrArg (fun z => some (Value.int z)) (hn)) dX10_legsAtFinish_30 ?_
    refine lv_iconst (v := (1 : Int32)) hx hb dX10_legsAtFinish_33 (by decide) ?_
    refine z_isub hx hb (a := n) (b := 1) (n := n - 1) dX10_legsAtFinish_34 rfl rfl (by omega) (by omega) ?_
    refine z_iald C0 hP (k := (t + 9)) (i := n - 1) (v := (G (t + 9) (n - 1))) (ht (9, 11, 10) (by decide)).1 (Nat.lt_of_lt_of_eq (show n - 1 < 10 by omega) (ht (9, 11, 10) (by decide)).2.symm) rfl dX10_legsAtFinish_35 (rfl) ?_
    subst hQ_
    exact z_iret C0 hP hS (v := (G (t + 9) (n - 1))) (by refine ⟨?_, rfl⟩; simp [c_7]) dX10_legsAtFinish_36
  · skip
    refine lv_aload_n hx hb dX10_legsAtFinish_10 rfl (lv_at hl 0 rfl) ?_
    refine z_get C0 hP (C := RX10) (T := TX10) (N := 6) (ci := 8) (index := 21) (k := t) (ref := "WetSuitPedalsShoes$Trial") (zk_lt (ht (0, 8, 6) (by decide)).1 (by decide)) (zd_8 E (ht (0, 8, 6) (by decide)).1 _) rfl (zmi inU_10) 1 (by decide) (zm flRX10_21) rfl (v := .ref (E.1 (t + 5))) (rfl) dX10_legsAtFinish_11 ?_
    refine z_get C0 hP (C := RX0) (T := TX0) (N := 2) (ci := 0) (index := 46) (k := (t + 5)) (ref := "WetSuitPedalsShoes$Athlete") (zk_lt (ht (5, 0, 2) (by decide)).1 (by decide)) (zd_0 E (ht (5, 0, 2) (by decide)).1 _) rfl (zmi inU_0) 0 (by decide) (zm flRX10_46) rfl (v := .ref (E.1 (t + 6))) (rfl) dX10_legsAtFinish_14 ?_
    refine lv_iconst (v := (3 : Int32)) hx hb dX10_legsAtFinish_17 (by decide) ?_
    refine z_iald C0 hP (k := (t + 6)) (i := 3) (v := (G (t + 6) 3)) (ht (6, 11, 4) (by decide)).1 (Nat.lt_of_lt_of_eq (show 3 < 4 by decide) (ht (6, 11, 4) (by decide)).2.symm) rfl dX10_legsAtFinish_18 (rfl) ?_
    refine lv_goto (tgt := 36) hx hb dX10_legsAtFinish_19 (by decide) ?_
    subst hQ_
    exact z_iret C0 hP hS (v := (G (t + 6) 3)) (by refine ⟨?_, rfl⟩; simp [c_7]) dX10_legsAtFinish_36
theorem mlRX10_81 : Cond.methodLink RX10 81 yX4_isRide ∈ zU := zU_m 576 (by decide +kernel) rfl
set_option maxHeartbeats 4000000 in
set_option maxRecDepth 100000 in
theorem c_X10_rideAt (l : Launch) (E : zE) (G : zG) (t n : Nat) (v : Int32) (ht : zIs t tTri) (hn : G (t + 1) 0 = nI n) (hn10 : n ≤ 10) : zMv l yX10_rideAt wsX10_rideAt ({ frames := 1, cells := 0, slots := 0, locals := 20 } : Room) E G [.ref (E.1 t), .int v] (fun G1 => g1 G (t + 7) (s_rides (G (t + 2)) (G (t + 7)) v n) = G1) := by
  refine zOf (cc := cX10_rideAt) (nL := 3) (ret := none) RX10 (by decide) rfl rfl (Nat.le_of_ble_eq_true rfl) ?_
  intro p_ e_ s_ m_ a_ b_ me_ c_ ls C0 hP hS hl
  have hx := C0.1
  have hb := C0.2.1
  have hts := C0.2.2.2.2.1
  have hD : zD E (zA E s_.heap.size) := C0.2.2.2.2.2.2.2.2
  have hA : ∀ q : Nat, s_.heap.size ≤ q → zA E s_.heap.size q := fun q h => Or.inr h
  refine z_gen (fun Q_ hQ_ => ?_)
  have hl : lv_has ls 3 [(0, .ref (E.1 t)), (1, .int v)] := hl
  refine lv_iconst (v := (0 : Int32)) hx hb dX10_rideAt_0 (by decide) ?_
  refine lv_istore_n (lv' := [(2, .int (0 : Int32)), (0, .ref (E.1 t)), (1, .int v)]) hx hb dX10_rideAt_1 rfl hl (by decide) rfl (fun ls hl => ?_)
  have cut_2 : ∀ (fuel : Nat), ∀ (i : Nat) (f : Nat → Int32) (H : Heap) (locs : List Loc) (ls : Array Slot), (i ≤ n) → (f = s_rides (G (t + 2)) (G (t + 7)) v i) → zP E (g1 G (t + 7) f) H → va_S (zA E s_.heap.size) s_.heap H locs → lv_has ls 3 [(0, .ref (E.1 t)), (1, .int v), (2, .int (nI i))] → n - i < fuel → W p_ l e_ ({ frames := 1, cells := 0, slots := 0, locals := 20 } : Room) s_ m_ a_ b_ me_ c_ H locs 0 0 Q_ (F0 m_ 2 ls []) := by
    intro fuel
    induction fuel with
    | zero =>
      intro i  f  H locs ls hin hf hP hS hl hfu
      exact absurd hfu (Nat.not_lt_zero _)
    | succ fuel ih_2 =>
      intro i  f  H locs ls hin hf hP hS hl hfu_2
      refine lv_iload_n hx hb dX10_rideAt_2 rfl (lv_at hl 2 rfl) ?_
      refine lv_aload_n hx hb dX10_rideAt_3 rfl (lv_at hl 0 rfl) ?_
      refine z_get C0 hP (C := RX10) (T := TX10) (N := 6) (ci := 8) (index := 12) (k := t) (ref := "WetSuitPedalsShoes$Trial") (zk_lt (ht (0, 8, 6) (by decide)).1 (by decide)) (zd_8 E (ht (0, 8, 6) (by decide)).1 _) rfl (zmi inU_10) 0 (by decide) (zm flRX10_12) rfl (v := .ref (E.1 (t + 1))) (rfl) dX10_rideAt_4 ?_
      refine z_get C0 hP (C := RX1) (T := TX1) (N := 4) (ci := 1) (index := 49) (k := (t + 1)) (ref := "WetSuitPedalsShoes$Course") (zk_lt (ht (1, 1, 4) (by decide)).1 (by decide)) (zd_1 E (ht (1, 1, 4) (by decide)).1 _) rfl (zmi inU_1) 0 (by decide) (zm flRX10_49) rfl (v := .int (nI n)) (congrArg (fun z => some (Value.int z)) ((congrFun (g1_n (by omega)) _).trans (hn))) dX10_rideAt_7 ?_
      refine z_N_ge hx hb (a := i) (b := n) (tgt := 44) dX10_rideAt_10 rfl rfl (by omega) (by omega) (by decide) (fun c_10 => ?_) (fun c_10 => ?_)
      · skip
        subst hQ_
        exact z_vret C0 hP hS (by rw [hf, show i = n by omega]) dX10_rideAt_44
      · skip
        refine lv_aload_n hx hb dX10_rideAt_13 rfl (lv_at hl 0 rfl) ?_
        refine z_get C0 hP (C := RX10) (T := TX10) (N := 6) (ci := 8) (index := 12) (k := t) (ref := "WetSuitPedalsShoes$Trial") (zk_lt (ht (0, 8, 6) (by decide)).1 (by decide)) (zd_8 E (ht (0, 8, 6) (by decide)).1 _) rfl (zmi inU_10) 0 (by decide) (zm flRX10_12) rfl (v := .ref (E.1 (t + 1))) (rfl) dX10_rideAt_14 ?_
        refine z_get C0 hP (C := RX1) (T := TX1) (N := 4) (ci := 1) (index := 65) (k := (t + 1)) (ref := "WetSuitPedalsShoes$Course") (zk_lt (ht (1, 1, 4) (by decide)).1 (by decide)) (zd_1 E (ht (1, 1, 4) (by decide)).1 _) rfl (zmi inU_1) 1 (by decide) (zm flRX10_65) rfl (v := .ref (E.1 (t + 2))) (rfl) dX10_rideAt_17 ?_
        refine lv_iload_n hx hb dX10_rideAt_20 rfl (lv_at hl 2 rfl) ?_
        refine z_iald C0 hP (k := (t + 2)) (i := i) (v := (G (t + 2) i)) (ht (2, 11, 10) (by decide)).1 (Nat.lt_of_lt_of_eq (show i < 10 by omega) (ht (2, 11, 10) (by decide)).2.symm) rfl dX10_rideAt_21 (congrFun (g1_n (by omega)) _) ?_
        refine z_Si C0 hP hD hA hS (As := [.int (G (t + 2) i)]) (rest := []) (c_X4_isRide l E _ (G (t + 2) i)) (va_cwS 1 hts (zgS zbw mlRX10_81 stX4_isRide iniRX4 coX4_isRide) rfl rfl rfl (by decide +kernel) ⟨Nat.le_of_ble_eq_true rfl, Nat.le_of_ble_eq_true rfl⟩) rfl hl.1 rfl (Nat.le_of_ble_eq_true rfl) dX10_rideAt_22 ⟨Nat.zero_le _, Nat.zero_le _⟩ (fun r1 G1 H locs hw1 hP hS => ?_)
        obtain ⟨rfl, rfl⟩ := hw1
        refine lv_if_eq (tgt := 38) hx hb dX10_rideAt_25 (by decide) (fun c_25 => ?_) (fun c_25 => ?_)
        · skip
          refine lv_iinc (v := (nI (i + 1))) (lv' := [(2, .int (nI (i + 1))), (0, .ref (E.1 t)), (1, .int v)]) hx hb dX10_rideAt_38 hl (k := 2) rfl (z_inc (by decide)) (by decide) rfl (fun ls hl => ?_)
          refine lv_goto (tgt := 2) hx hb dX10_rideAt_41 (by decide) ?_
          exact ih_2 (i + 1) f _ _ _ (by first | assumption | omega) (by rw [hf]; exact (s_rides_n (fun q => by rw [c_25] at q; exact absurd q (by decide))).symm) hP hS (lv_sub hl [1, 2, 0] rfl) (by omega)
        · skip
          refine lv_aload_n hx hb dX10_rideAt_28 rfl (lv_at hl 0 rfl) ?_
          refine z_get C0 hP (C := RX10) (T := TX10) (N := 6) (ci := 8) (index := 21) (k := t) (ref := "WetSuitPedalsShoes$Trial") (zk_lt (ht (0, 8, 6) (by decide)).1 (by decide)) (zd_8 E (ht (0, 8, 6) (by decide)).1 _) rfl (zmi inU_10) 1 (by decide) (zm flRX10_21) rfl (v := .ref (E.1 (t + 5))) (rfl) dX10_rideAt_29 ?_
          refine z_get C0 hP (C := RX0) (T := TX0) (N := 2) (ci := 0) (index := 52) (k := (t + 5)) (ref := "WetSuitPedalsShoes$Athlete") (zk_lt (ht (5, 0, 2) (by decide)).1 (by decide)) (zd_0 E (ht (5, 0, 2) (by decide)).1 _) rfl (zmi inU_0) 1 (by decide) (zm flRX10_52) rfl (v := .ref (E.1 (t + 7))) (rfl) dX10_rideAt_32 ?_
          refine lv_iload_n hx hb dX10_rideAt_35 rfl (lv_at hl 2 rfl) ?_
          refine lv_iload_n hx hb dX10_rideAt_36 rfl (lv_at hl 1 rfl) ?_
          refine z_iast C0 hP hD hS (k := (t + 7)) (i := i) (v := v) (F := f) (g1_s _ _ _) (ht (7, 11, 10) (by decide)).1 (Nat.lt_of_lt_of_eq (show i < 10 by omega) (ht (7, 11, 10) (by decide)).2.symm) rfl dX10_rideAt_37 (fun H locs hP hS => ?_)
          have hP := zP_eq (g1_t _ _ _ _ : _ = (g1 G (t + 7) (upd f i v))) hP
          refine lv_iinc (v := (nI (i + 1))) (lv' := [(2, .int (nI (i + 1))), (0, .ref (E.1 t)), (1, .int v)]) hx hb dX10_rideAt_38 hl (k := 2) rfl (z_inc (by decide)) (by decide) rfl (fun ls hl => ?_)
          refine lv_goto (tgt := 2) hx hb dX10_rideAt_41 (by decide) ?_
          exact ih_2 (i + 1) (upd f i v) _ _ _ (by first | assumption | omega) (by rw [hf]; exact (s_rides_y (s_ride_ne c_25)).symm) hP hS (lv_sub hl [1, 2, 0] rfl) (by omega)
  exact cut_2 (_ + 1) 0 (G (t + 7)) _ _ _ (by first | assumption | omega) (by rfl) (zP_eq ((g1_e G (t + 7)).symm) hP) hS (lv_sub hl [1, 2, 0] rfl) (Nat.lt_succ_self _)
