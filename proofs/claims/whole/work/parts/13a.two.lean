/-! laid by wip/whole/vcg.py -/
set_option maxHeartbeats 4000000 in
set_option maxRecDepth 100000 in
theorem c_X2_hindered (l : Launch) (E : zE) (G : zG) (q a o : Nat) (hq : zIs q tArr4) (ha : a < 4) (ho : o < 4) : zMi l yX2_hindered wsX2_hindered ({ frames := 0, cells := 0, slots := 0, locals := 0 } : Room) E G [.ref (E.1 q), .int (nI a), .int (nI o)] (fun r G1 => s_hind (G q) a o = r ∧ G = G1) := by
  refine zOf (cc := cX2_hindered) (nL := 3) (ret := (some .int)) RX2 (by decide) rfl rfl (Nat.le_of_ble_eq_true rfl) ?_
  intro p_ e_ s_ m_ a_ b_ me_ c_ ls C0 hP hS hl
  have hx := C0.1
  have hb := C0.2.1
  have hts := C0.2.2.2.2.1
  have hD : zD E (zA E s_.heap.size) := C0.2.2.2.2.2.2.2.2
  have hA : ∀ q : Nat, s_.heap.size ≤ q → zA E s_.heap.size q := fun q h => Or.inr h
  refine z_gen (fun Q_ hQ_ => ?_)
  have hl : lv_has ls 3 [(0, .ref (E.1 q)), (1, .int (nI a)), (2, .int (nI o))] := hl
  refine lv_iload_n hx hb dX2_hindered_0 rfl (lv_at hl 1 rfl) ?_
  refine lv_iload_n hx hb dX2_hindered_1 rfl (lv_at hl 2 rfl) ?_
  refine z_N_ge hx hb (a := a) (b := o) (tgt := 13) dX2_hindered_2 rfl rfl (by omega) (by omega) (by decide) (fun c_2 => ?_) (fun c_2 => ?_)
  · skip
    refine lv_aload_n hx hb dX2_hindered_13 rfl (lv_at hl 0 rfl) ?_
    refine lv_iload_n hx hb dX2_hindered_14 rfl (lv_at hl 1 rfl) ?_
    refine z_iald C0 hP (k := q) (i := a) (v := (G q a)) (hq (0, 11, 4) (by decide)).1 (Nat.lt_of_lt_of_eq (show a < 4 by omega) (hq (0, 11, 4) (by decide)).2.symm) rfl dX2_hindered_15 (rfl) ?_
    subst hQ_
    exact z_iret C0 hP hS (v := (G q a)) (by exact ⟨if_neg (by omega), rfl⟩) dX2_hindered_16
  · skip
    refine lv_aload_n hx hb dX2_hindered_5 rfl (lv_at hl 0 rfl) ?_
    refine lv_iload_n hx hb dX2_hindered_6 rfl (lv_at hl 1 rfl) ?_
    refine z_iald C0 hP (k := q) (i := a) (v := (G q a)) (hq (0, 11, 4) (by decide)).1 (Nat.lt_of_lt_of_eq (show a < 4 by omega) (hq (0, 11, 4) (by decide)).2.symm) rfl dX2_hindered_7 (rfl) ?_
    refine lv_iconst (v := (5 : Int32)) hx hb dX2_hindered_8 (by decide) ?_
    refine lv_iadd hx hb dX2_hindered_9 ?_
    refine lv_goto (tgt := 16) hx hb dX2_hindered_10 (by decide) ?_
    subst hQ_
    exact z_iret C0 hP hS (v := ((G q a) + (5 : Int32))) (by exact ⟨if_pos (by omega), rfl⟩) dX2_hindered_16
theorem mlRX2_22 : Cond.methodLink RX2 22 yX2_hindered ∈ zU := zU_m 710 (by decide +kernel) rfl
theorem coX2_hindered : Cond.code yX2_hindered cX2_hindered 3 (some .int) ∈ zU := zU_m 712 (by decide +kernel) rfl
theorem stX2_hindered : Cond.static yX2_hindered ∈ zU := zU_m 711 (by decide +kernel) rfl
theorem iniRX2 : Cond.initialized RX2 ∈ zU := zU_m 56 (by decide +kernel) rfl
set_option maxHeartbeats 4000000 in
set_option maxRecDepth 100000 in
theorem c_X2_isBestAgainst (l : Launch) (E : zE) (G : zG) (q a o : Nat) (hq : zIs q tArr4) (ha : a < 4) (ho : o < 4) : zMi l yX2_isBestAgainst wsX2_isBestAgainst ({ frames := 1, cells := 0, slots := 0, locals := 22 } : Room) E G [.ref (E.1 q), .int (nI a), .int (nI o)] (fun r G1 => (if s_isb (G q) a o = true then (1 : Int32) else 0) = r ∧ G = G1) := by
  refine zOf (cc := cX2_isBestAgainst) (nL := 5) (ret := (some .boolean)) RX2 (by decide) rfl rfl (Nat.le_of_ble_eq_true rfl) ?_
  intro p_ e_ s_ m_ a_ b_ me_ c_ ls C0 hP hS hl
  have hx := C0.1
  have hb := C0.2.1
  have hts := C0.2.2.2.2.1
  have hD : zD E (zA E s_.heap.size) := C0.2.2.2.2.2.2.2.2
  have hA : ∀ q : Nat, s_.heap.size ≤ q → zA E s_.heap.size q := fun q h => Or.inr h
  refine z_gen (fun Q_ hQ_ => ?_)
  have hl : lv_has ls 5 [(0, .ref (E.1 q)), (1, .int (nI a)), (2, .int (nI o))] := hl
  refine lv_aload_n hx hb dX2_isBestAgainst_0 rfl (lv_at hl 0 rfl) ?_
  refine lv_iload_n hx hb dX2_isBestAgainst_1 rfl (lv_at hl 1 rfl) ?_
  refine lv_iload_n hx hb dX2_isBestAgainst_2 rfl (lv_at hl 2 rfl) ?_
  refine z_Si C0 hP hD hA hS (As := [.ref (E.1 q), .int (nI a), .int (nI o)]) (rest := []) (c_X2_hindered l E _ q a o hq (by omega) (by omega)) (va_cwS 3 hts (zgS zbw mlRX2_22 stX2_hindered iniRX2 coX2_hindered) rfl rfl rfl (by decide +kernel) ⟨Nat.le_of_ble_eq_true rfl, Nat.le_of_ble_eq_true rfl⟩) rfl hl.1 rfl (Nat.le_of_ble_eq_true rfl) dX2_isBestAgainst_3 ⟨Nat.zero_le _, Nat.zero_le _⟩ (fun r1 G1 H locs hw1 hP hS => ?_)
  obtain ⟨hr1, rfl⟩ := hw1
  subst hr1
  refine lv_istore_n (lv' := [(3, .int (s_hind (G q) a o)), (0, .ref (E.1 q)), (1, .int (nI a)), (2, .int (nI o))]) hx hb dX2_isBestAgainst_6 rfl hl (by decide) rfl (fun ls hl => ?_)
  refine lv_iconst (v := (0 : Int32)) hx hb dX2_isBestAgainst_7 (by decide) ?_
  refine lv_istore (lv' := [(4, .int (0 : Int32)), (3, .int (s_hind (G q) a o)), (0, .ref (E.1 q)), (1, .int (nI a)), (2, .int (nI o))]) hx hb dX2_isBestAgainst_8 hl (by decide) rfl (fun ls hl => ?_)
  have cut_10 : ∀ (fuel : Nat), ∀ (k : Nat) (H : Heap) (locs : List Loc) (ls : Array Slot), (k ≤ 4) → (∀ j, j < k → ¬ s_hind (G q) j o < s_hind (G q) a o) → zP E G H → va_S (zA E s_.heap.size) s_.heap H locs → lv_has ls 5 [(0, .ref (E.1 q)), (1, .int (nI a)), (2, .int (nI o)), (3, .int (s_hind (G q) a o)), (4, .int (nI k))] → 4 - k < fuel → W p_ l e_ ({ frames := 1, cells := 0, slots := 0, locals := 22 } : Room) s_ m_ a_ b_ me_ c_ H locs 0 0 Q_ (F0 m_ 10 ls []) := by
    intro fuel
    induction fuel with
    | zero =>
      intro k  H locs ls hin hk hP hS hl hfu
      exact absurd hfu (Nat.not_lt_zero _)
    | succ fuel ih_10 =>
      intro k  H locs ls hin hk hP hS hl hfu_10
      refine lv_iload hx hb dX2_isBestAgainst_10 (lv_at hl 4 rfl) ?_
      refine lv_iconst (v := (3 : Int32)) hx hb dX2_isBestAgainst_12 (by decide) ?_
      refine z_N_gt hx hb (a := k) (b := 3) (tgt := 35) dX2_isBestAgainst_13 rfl rfl (by omega) (by omega) (by decide) (fun c_13 => ?_) (fun c_13 => ?_)
      · skip
        refine lv_iconst (v := (1 : Int32)) hx hb dX2_isBestAgainst_35 (by decide) ?_
        subst hQ_
        exact z_zret C0 hP hS (v := (1 : Int32)) (by decide) (by exact ⟨if_pos (s_isb_t fun j hj => hk j (by omega)), rfl⟩) dX2_isBestAgainst_36
      · skip
        refine lv_aload_n hx hb dX2_isBestAgainst_16 rfl (lv_at hl 0 rfl) ?_
        refine lv_iload hx hb dX2_isBestAgainst_17 (lv_at hl 4 rfl) ?_
        refine lv_iload_n hx hb dX2_isBestAgainst_19 rfl (lv_at hl 2 rfl) ?_
        refine z_Si C0 hP hD hA hS (As := [.ref (E.1 q), .int (nI k), .int (nI o)]) (rest := []) (c_X2_hindered l E _ q k o hq (by omega) (by omega)) (va_cwS 3 hts (zgS zbw mlRX2_22 stX2_hindered iniRX2 coX2_hindered) rfl rfl rfl (by decide +kernel) ⟨Nat.le_of_ble_eq_true rfl, Nat.le_of_ble_eq_true rfl⟩) rfl hl.1 rfl (Nat.le_of_ble_eq_true rfl) dX2_isBestAgainst_20 ⟨Nat.zero_le _, Nat.zero_le _⟩ (fun r2 G2 H locs hw2 hP hS => ?_)
        obtain ⟨hr2, rfl⟩ := hw2
        subst hr2
        refine lv_iload_n hx hb dX2_isBestAgainst_23 rfl (lv_at hl 3 rfl) ?_
        refine lv_icmp_ge (tgt := 29) hx hb dX2_isBestAgainst_24 (by decide) (fun c_24 => ?_) (fun c_24 => ?_)
        · skip
          have d_24 := Int32.not_lt.mpr c_24
          refine lv_iinc (v := (nI (k + 1))) (lv' := [(4, .int (nI (k + 1))), (0, .ref (E.1 q)), (1, .int (nI a)), (2, .int (nI o)), (3, .int (s_hind (G q) a o))]) hx hb dX2_isBestAgainst_29 hl (k := 4) rfl (z_inc (by decide)) (by decide) rfl (fun ls hl => ?_)
          refine lv_goto (tgt := 10) hx hb dX2_isBestAgainst_32 (by decide) ?_
          exact ih_10 (k + 1) _ _ _ (by first | assumption | omega) (by intro j hj; rcases Nat.lt_or_ge j k with h9 | h9; (exact hk j h9); (rw [show j = k by omega]; exact d_24)) hP hS (lv_sub hl [1, 2, 3, 4, 0] rfl) (by omega)
        · skip
          have d_24 := Int32.not_le.mp c_24
          refine lv_iconst (v := (0 : Int32)) hx hb dX2_isBestAgainst_27 (by decide) ?_
          subst hQ_
          exact z_zret C0 hP hS (v := (0 : Int32)) (by decide) (by exact ⟨if_neg (fun q9 => s_isb_e q9 k (by omega) d_24), rfl⟩) dX2_isBestAgainst_28
  exact cut_10 (_ + 1) 0 _ _ _ (by first | assumption | omega) (by exact fun j hj => absurd hj (Nat.not_lt_zero j)) hP hS (lv_sub hl [2, 3, 4, 1, 0] rfl) (Nat.lt_succ_self _)
theorem flRX2_9 : Cond.fieldLink RX2 9 "WetSuitPedalsShoes$Duel" "first" "[I" ∈ zU := zU_m 248 (by decide +kernel) rfl
theorem z_lit_Arr4_89 : zIs 89 tArr4 := by unfold zIs; decide +kernel
theorem mlRX2_18 : Cond.methodLink RX2 18 yX2_isBestAgainst ∈ zU := zU_m 707 (by decide +kernel) rfl
theorem coX2_isBestAgainst : Cond.code yX2_isBestAgainst cX2_isBestAgainst 5 (some .boolean) ∈ zU := zU_m 709 (by decide +kernel) rfl
theorem stX2_isBestAgainst : Cond.static yX2_isBestAgainst ∈ zU := zU_m 708 (by decide +kernel) rfl
theorem flRX2_15 : Cond.fieldLink RX2 15 "WetSuitPedalsShoes$Duel" "second" "[I" ∈ zU := zU_m 250 (by decide +kernel) rfl
theorem z_lit_Arr4_90 : zIs 90 tArr4 := by unfold zIs; decide +kernel
set_option maxHeartbeats 4000000 in
set_option maxRecDepth 100000 in
theorem c_X2_settled (l : Launch) (E : zE) (G : zG)  : zMi l yX2_settled wsX2_settled ({ frames := 2, cells := 0, slots := 0, locals := 46 } : Room) E G [.ref (E.1 88)] (fun r G1 => s_two (G 89) (G 90) = r ∧ G = G1) := by
  refine zOf (cc := cX2_settled) (nL := 3) (ret := (some .int)) RX2 (by decide) rfl rfl (Nat.le_of_ble_eq_true rfl) ?_
  intro p_ e_ s_ m_ a_ b_ me_ c_ ls C0 hP hS hl
  have hx := C0.1
  have hb := C0.2.1
  have hts := C0.2.2.2.2.1
  have hD : zD E (zA E s_.heap.size) := C0.2.2.2.2.2.2.2.2
  have hA : ∀ q : Nat, s_.heap.size ≤ q → zA E s_.heap.size q := fun q h => Or.inr h
  refine z_gen (fun Q_ hQ_ => ?_)
  have hl : lv_has ls 3 [(0, .ref (E.1 88))] := hl
  refine lv_iconst (v := (0 : Int32)) hx hb dX2_settled_0 (by decide) ?_
  refine lv_istore_n (lv' := [(1, .int (0 : Int32)), (0, .ref (E.1 88))]) hx hb dX2_settled_1 rfl hl (by decide) rfl (fun ls hl => ?_)
  have cut_2 : ∀ (fuel : Nat), ∀ (x : Nat) (H : Heap) (locs : List Loc) (ls : Array Slot), (x ≤ 4) → (s_fst (s_pair (G 89) (G 90)) (4 * x) = 4 * x) → zP E G H → va_S (zA E s_.heap.size) s_.heap H locs → lv_has ls 3 [(0, .ref (E.1 88)), (1, .int (nI x))] → 4 - x < fuel → W p_ l e_ ({ frames := 2, cells := 0, slots := 0, locals := 46 } : Room) s_ m_ a_ b_ me_ c_ H locs 0 0 Q_ (F0 m_ 2 ls []) := by
    intro fuel
    induction fuel with
    | zero =>
      intro x  H locs ls hix hfx hP hS hl hfu
      exact absurd hfu (Nat.not_lt_zero _)
    | succ fuel ih_2 =>
      intro x  H locs ls hix hfx hP hS hl hfu_2
      refine lv_iload_n hx hb dX2_settled_2 rfl (lv_at hl 1 rfl) ?_
      refine lv_iconst (v := (3 : Int32)) hx hb dX2_settled_3 (by decide) ?_
      refine z_N_gt hx hb (a := x) (b := 3) (tgt := 57) dX2_settled_4 rfl rfl (by omega) (by omega) (by decide) (fun c_4 => ?_) (fun c_4 => ?_)
      · skip
        refine lv_bipush (v := (-9 : Int32)) hx hb dX2_settled_57 (by decide) ?_
        subst hQ_
        exact z_iret C0 hP hS (v := (-9 : Int32)) (by exact ⟨s_two_n (by have e8 : x = 4 := (by omega); subst e8; exact hfx), rfl⟩) dX2_settled_59
      · skip
        refine lv_iconst (v := (0 : Int32)) hx hb dX2_settled_7 (by decide) ?_
        refine lv_istore_n (lv' := [(2, .int (0 : Int32)), (0, .ref (E.1 88)), (1, .int (nI x))]) hx hb dX2_settled_8 rfl hl (by decide) rfl (fun ls hl => ?_)
        have cut_9 : ∀ (fuel : Nat), ∀ (y : Nat) (H : Heap) (locs : List Loc) (ls : Array Slot), (y ≤ 4) → (s_fst (s_pair (G 89) (G 90)) (4 * x + y) = 4 * x + y) → zP E G H → va_S (zA E s_.heap.size) s_.heap H locs → lv_has ls 3 [(0, .ref (E.1 88)), (1, .int (nI x)), (2, .int (nI y))] → 4 - y < fuel → W p_ l e_ ({ frames := 2, cells := 0, slots := 0, locals := 46 } : Room) s_ m_ a_ b_ me_ c_ H locs 0 0 Q_ (F0 m_ 9 ls []) := by
          intro fuel
          induction fuel with
          | zero =>
            intro y  H locs ls hiy hfy hP hS hl hfu
            exact absurd hfu (Nat.not_lt_zero _)
          | succ fuel ih_9 =>
            intro y  H locs ls hiy hfy hP hS hl hfu_9
            refine lv_iload_n hx hb dX2_settled_9 rfl (lv_at hl 2 rfl) ?_
            refine lv_iconst (v := (3 : Int32)) hx hb dX2_settled_10 (by decide) ?_
            refine z_N_gt hx hb (a := y) (b := 3) (tgt := 51) dX2_settled_11 rfl rfl (by omega) (by omega) (by decide) (fun c_11 => ?_) (fun c_11 => ?_)
            · skip
              refine lv_iinc (v := (nI (x + 1))) (lv' := [(1, .int (nI (x + 1))), (0, .ref (E.1 88)), (2, .int (nI y))]) hx hb dX2_settled_51 hl (k := 1) rfl (z_inc (by decide)) (by decide) rfl (fun ls hl => ?_)
              refine lv_goto (tgt := 2) hx hb dX2_settled_54 (by decide) ?_
              exact ih_2 (x + 1) _ _ _ (by first | assumption | omega) (by rw [show 4 * (x + 1) = 4 * x + y by omega]; exact hfy) hP hS (lv_sub hl [1, 0] rfl) (by omega)
            · skip
              refine lv_aload_n hx hb dX2_settled_14 rfl (lv_at hl 0 rfl) ?_
              refine z_get C0 hP (C := RX2) (T := TX2) (N := 2) (ci := 2) (index := 9) (k := 88) (ref := "WetSuitPedalsShoes$Duel") (zk_lt (rfl : zk 88 = 2) (by decide)) (zd_2 E (rfl : zk 88 = 2) _) rfl (zmi inU_2) 0 (by decide) (zm flRX2_9) rfl (v := .ref (E.1 89)) (rfl) dX2_settled_15 ?_
              refine lv_iload_n hx hb dX2_settled_18 rfl (lv_at hl 1 rfl) ?_
              refine lv_iload_n hx hb dX2_settled_19 rfl (lv_at hl 2 rfl) ?_
              refine z_Si C0 hP hD hA hS (As := [.ref (E.1 89), .int (nI x), .int (nI y)]) (rest := []) (c_X2_isBestAgainst l E _ 89 x y z_lit_Arr4_89 (by omega) (by omega)) (va_cwS 3 hts (zgS zbw mlRX2_18 stX2_isBestAgainst iniRX2 coX2_isBestAgainst) rfl rfl rfl (by decide +kernel) ⟨Nat.le_of_ble_eq_true rfl, Nat.le_of_ble_eq_true rfl⟩) rfl hl.1 rfl (Nat.le_of_ble_eq_true rfl) dX2_settled_20 ⟨Nat.zero_le _, Nat.zero_le _⟩ (fun r1 G1 H locs hw1 hP hS => ?_)
              obtain ⟨hr1, rfl⟩ := hw1
              subst hr1
              refine lv_if_eq (tgt := 45) hx hb dX2_settled_23 (by decide) (fun c_23 => ?_) (fun c_23 => ?_)
              · skip
                have hb_ := z_ib0 c_23
                refine lv_iinc (v := (nI (y + 1))) (lv' := [(2, .int (nI (y + 1))), (0, .ref (E.1 88)), (1, .int (nI x))]) hx hb dX2_settled_45 hl (k := 2) rfl (z_inc (by decide)) (by decide) rfl (fun ls hl => ?_)
                refine lv_goto (tgt := 9) hx hb dX2_settled_48 (by decide) ?_
                exact ih_9 (y + 1) _ _ _ (by first | assumption | omega) (by exact s_fst_no (i := 4 * x + y) hfy (by rw [s_pair_at (by omega)]; simp [hb_])) hP hS (lv_sub hl [1, 2, 0] rfl) (by omega)
              · skip
                have hb_ := z_ib1 c_23
                refine lv_aload_n hx hb dX2_settled_26 rfl (lv_at hl 0 rfl) ?_
                refine z_get C0 hP (C := RX2) (T := TX2) (N := 2) (ci := 2) (index := 15) (k := 88) (ref := "WetSuitPedalsShoes$Duel") (zk_lt (rfl : zk 88 = 2) (by decide)) (zd_2 E (rfl : zk 88 = 2) _) rfl (zmi inU_2) 1 (by decide) (zm flRX2_15) rfl (v := .ref (E.1 90)) (rfl) dX2_settled_27 ?_
                refine lv_iload_n hx hb dX2_settled_30 rfl (lv_at hl 2 rfl) ?_
                refine lv_iload_n hx hb dX2_settled_31 rfl (lv_at hl 1 rfl) ?_
                refine z_Si C0 hP hD hA hS (As := [.ref (E.1 90), .int (nI y), .int (nI x)]) (rest := []) (c_X2_isBestAgainst l E _ 90 y x z_lit_Arr4_90 (by omega) (by omega)) (va_cwS 3 hts (zgS zbw mlRX2_18 stX2_isBestAgainst iniRX2 coX2_isBestAgainst) rfl rfl rfl (by decide +kernel) ⟨Nat.le_of_ble_eq_true rfl, Nat.le_of_ble_eq_true rfl⟩) rfl hl.1 rfl (Nat.le_of_ble_eq_true rfl) dX2_settled_32 ⟨Nat.zero_le _, Nat.zero_le _⟩ (fun r2 G2 H locs hw2 hP hS => ?_)
                obtain ⟨hr2, rfl⟩ := hw2
                subst hr2
                refine lv_if_eq (tgt := 45) hx hb dX2_settled_35 (by decide) (fun c_35 => ?_) (fun c_35 => ?_)
                · skip
                  have hb2_ := z_ib0 c_35
                  refine lv_iinc (v := (nI (y + 1))) (lv' := [(2, .int (nI (y + 1))), (0, .ref (E.1 88)), (1, .int (nI x))]) hx hb dX2_settled_45 hl (k := 2) rfl (z_inc (by decide)) (by decide) rfl (fun ls hl => ?_)
                  refine lv_goto (tgt := 9) hx hb dX2_settled_48 (by decide) ?_
                  exact ih_9 (y + 1) _ _ _ (by first | assumption | omega) (by exact s_fst_no (i := 4 * x + y) hfy (by rw [s_pair_at (by omega)]; simp [hb2_])) hP hS (lv_sub hl [1, 2, 0] rfl) (by omega)
                · skip
                  have hb2_ := z_ib1 c_35
                  refine lv_bipush (v := (10 : Int32)) hx hb dX2_settled_38 (by decide) ?_
                  refine lv_iload_n hx hb dX2_settled_40 rfl (lv_at hl 1 rfl) ?_
                  refine z_imul hx hb (a := 10) (b := x) (n := 10 * x) dX2_settled_41 rfl rfl rfl ?_
                  refine lv_iload_n hx hb dX2_settled_42 rfl (lv_at hl 2 rfl) ?_
                  refine z_iadd hx hb (a := 10 * x) (b := y) (n := (10 * x) + y) dX2_settled_43 rfl rfl rfl ?_
                  subst hQ_
                  exact z_iret C0 hP hS (v := (nI ((10 * x) + y))) (by exact ⟨s_two_y (by omega) (by omega) hfy ⟨hb_, hb2_⟩, rfl⟩) dX2_settled_44
        exact cut_9 (_ + 1) 0 _ _ _ (by first | assumption | omega) (by exact hfx) hP hS (lv_sub hl [1, 2, 0] rfl) (Nat.lt_succ_self _)
  exact cut_2 (_ + 1) 0 _ _ _ (by first | assumption | omega) (by rfl) hP hS (lv_sub hl [1, 0] rfl) (Nat.lt_succ_self _)
theorem flRX11_61 : Cond.fieldLink RX11 61 "WetSuitPedalsShoes" "duel" "LWetSuitPedalsShoes$Duel;" ∈ zU := zU_m 281 (by decide +kernel) rfl
theorem mlRX11_251 : Cond.methodLink RX11 251 yX2_settled ∈ zU := zU_m 703 (by decide +kernel) rfl
theorem coX2_settled : Cond.code yX2_settled cX2_settled 3 (some .int) ∈ zU := zU_m 706 (by decide +kernel) rfl
theorem imX2_settled : Cond.instanceMethod yX2_settled ∈ zU := zU_m 704 (by decide +kernel) rfl
theorem seX2_settled : Cond.selects RX2 yX2_settled yX2_settled ∈ zU := zU_m 705 (by decide +kernel) rfl
theorem flRX11_242 : Cond.fieldLink RX11 242 "WetSuitPedalsShoes$Duel" "first" "[I" ∈ zU := zU_m 249 (by decide +kernel) rfl
theorem mlRX11_245 : Cond.methodLink RX11 245 yX11_finishTrying ∈ zU := zU_m 699 (by decide +kernel) rfl
theorem coX11_finishTrying : Cond.code yX11_finishTrying cX11_finishTrying 4 (some .int) ∈ zU := zU_m 702 (by decide +kernel) rfl
theorem imX11_finishTrying : Cond.instanceMethod yX11_finishTrying ∈ zU := zU_m 701 (by decide +kernel) rfl
theorem seX11_finishTrying : Cond.selects RX11 yX11_finishTrying yX11_finishTrying ∈ zU := zU_m 21 (by decide +kernel) rfl
theorem flRX11_248 : Cond.fieldLink RX11 248 "WetSuitPedalsShoes$Duel" "second" "[I" ∈ zU := zU_m 251 (by decide +kernel) rfl
set_option maxHeartbeats 4000000 in
set_option maxRecDepth 100000 in
theorem c_X11_two (l : Launch) (E : zE) (G : zG) (r : Nat → Int32) (n na : Nat) (one other sect : Int32) (hR : zFA G 1 r n na) (hn10 : n ≤ 10) (hna : na ≤ 5) (hp : zPl G) (hkd : zKd r n) : zMi l yX11_two wsX11_two ({ frames := 5, cells := 0, slots := 0, locals := 113 } : Room) E G [.ref (E.1 0), .int one, .int other, .int sect] (fun r1 G1 => zQc (A_two r n na one other sect) G r1 G1) := by
  refine zOf (cc := cX11_two) (nL := 5) (ret := (some .int)) RX11 (by decide) rfl rfl (Nat.le_of_ble_eq_true rfl) ?_
  intro p_ e_ s_ m_ a_ b_ me_ c_ ls C0 hP hS hl
  have hx := C0.1
  have hb := C0.2.1
  have hts := C0.2.2.2.2.1
  have hD : zD E (zA E s_.heap.size) := C0.2.2.2.2.2.2.2.2
  have hA : ∀ q : Nat, s_.heap.size ≤ q → zA E s_.heap.size q := fun q h => Or.inr h
  refine z_gen (fun Q_ hQ_ => ?_)
  have hl : lv_has ls 5 [(0, .ref (E.1 0)), (1, .int one), (2, .int other), (3, .int sect)] := hl
  refine lv_aload_n hx hb dX11_two_0 rfl (lv_at hl 0 rfl) ?_
  refine z_get C0 hP (C := RX11) (T := TX11) (N := 11) (ci := 9) (index := 10) (k := 0) (ref := "WetSuitPedalsShoes") (zk_lt (rfl : zk 0 = 9) (by decide)) (zd_9 E (rfl : zk 0 = 9) _) rfl (zmi inU_11) 0 (by decide) (zm flRX11_10) rfl (v := .ref (E.1 1)) (rfl) dX11_two_1 ?_
  refine lv_iload_n hx hb dX11_two_4 rfl (lv_at hl 1 rfl) ?_
  refine z_Vi C0 hP hD hA hS (As := [.int one]) (rest := []) (k := 1) (c_X3_has l E _ 1 na one z_lit_Fie_1 (hR.2.1) (by omega)) (cwV 1 hts (zgV zbw mlRX11_117 imX3_has seX3_has iniRX3 coX3_has) rfl rfl rfl (by decide +kernel) ⟨Nat.le_of_ble_eq_true rfl, Nat.le_of_ble_eq_true rfl⟩) (zk_lt (rfl : zk 1 = 3) (by decide)) (zd_3 E (rfl : zk 1 = 3) _) rfl rfl rfl hl.1 rfl (Nat.le_of_ble_eq_true rfl) dX11_two_5 ⟨Nat.zero_le _, Nat.zero_le _⟩ (fun r1 G1 H locs hw1 hP hS => ?_)
  rcases hw1 with ⟨rfl, rfl, io, hio, rfl⟩ | ⟨rfl, rfl, hno1⟩
  · skip
    have hz_io := zin_t hio (by omega)
    have hy_io : zix (nI io) = io := zix_n (by omega)
    refine lv_if_eq (tgt := 41) hx hb dX11_two_8 (by decide) (fun h_ => absurd h_ (by decide)) (fun _ => ?_)
    refine lv_aload_n hx hb dX11_two_11 rfl (lv_at hl 0 rfl) ?_
    refine z_get C0 hP (C := RX11) (T := TX11) (N := 11) (ci := 9) (index := 10) (k := 0) (ref := "WetSuitPedalsShoes") (zk_lt (rfl : zk 0 = 9) (by decide)) (zd_9 E (rfl : zk 0 = 9) _) rfl (zmi inU_11) 0 (by decide) (zm flRX11_10) rfl (v := .ref (E.1 1)) (rfl) dX11_two_12 ?_
    refine lv_iload_n hx hb dX11_two_15 rfl (lv_at hl 2 rfl) ?_
    refine z_Vi C0 hP hD hA hS (As := [.int other]) (rest := []) (k := 1) (c_X3_has l E _ 1 na other z_lit_Fie_1 (hR.2.1) (by omega)) (cwV 1 hts (zgV zbw mlRX11_117 imX3_has seX3_has iniRX3 coX3_has) rfl rfl rfl (by decide +kernel) ⟨Nat.le_of_ble_eq_true rfl, Nat.le_of_ble_eq_true rfl⟩) (zk_lt (rfl : zk 1 = 3) (by decide)) (zd_3 E (rfl : zk 1 = 3) _) rfl rfl rfl hl.1 rfl (Nat.le_of_ble_eq_true rfl) dX11_two_16 ⟨Nat.zero_le _, Nat.zero_le _⟩ (fun r2 G2 H locs hw2 hP hS => ?_)
    rcases hw2 with ⟨rfl, rfl, ip, hip, rfl⟩ | ⟨rfl, rfl, hno2⟩
    · skip
      have hz_ip := zin_t hip (by omega)
      have hy_ip : zix (nI ip) = ip := zix_n (by omega)
      refine lv_if_eq (tgt := 41) hx hb dX11_two_19 (by decide) (fun h_ => absurd h_ (by decide)) (fun _ => ?_)
      refine lv_iload_n hx hb dX11_two_22 rfl (lv_at hl 1 rfl) ?_
      refine lv_iload_n hx hb dX11_two_23 rfl (lv_at hl 2 rfl) ?_
      refine z_N_eq hx hb (a := io) (b := ip) (tgt := 41) dX11_two_24 rfl rfl (by omega) (by omega) (by decide) (fun c_24 => ?_) (fun c_24 => ?_)
      · skip
        have hne_ : nI io = nI ip := congrArg nI c_24
        refine lv_aload_n hx hb dX11_two_41 rfl (lv_at hl 0 rfl) ?_
        refine lv_iconst (v := (-1 : Int32)) hx hb dX11_two_42 (by decide) ?_
        refine z_Vi C0 hP hD hA hS (As := [.int (-1 : Int32)]) (rest := []) (k := 0) (c_X11_refuse l E _ (-1 : Int32) 1 (by decide) (by decide) (by decide)) (cwV 1 hts (zgV zbw mlRX11_72 imX11_refuse seX11_refuse iniRX11 coX11_refuse) rfl rfl rfl (by decide +kernel) ⟨Nat.le_of_ble_eq_true rfl, Nat.le_of_ble_eq_true rfl⟩) (zk_lt (rfl : zk 0 = 9) (by decide)) (zd_9 E (rfl : zk 0 = 9) _) rfl rfl rfl hl.1 rfl (Nat.le_of_ble_eq_true rfl) dX11_two_43 ⟨Nat.zero_le _, Nat.zero_le _⟩ (fun r3 G3 H locs hw3 hP hS => ?_)
        obtain ⟨rfl, rfl⟩ := hw3
        subst hQ_
        exact z_iret C0 hP hS (v := (-1 : Int32)) (by exact zQc_of (k := 1) (by simp [A_two, hz_io, hy_io, hz_ip, hy_ip, c_24, hne_]) (fun k hk => g1_n (by omega)) (g1_s _ _ _) (z_plk (g1_n (by decide)) hp)) dX11_two_46
      · skip
        have hne_ : ¬ nI io = nI ip := fun q => c_24 ((nI_eq (by omega) (by omega)).mp q)
        refine lv_aload_n hx hb dX11_two_27 rfl (lv_at hl 0 rfl) ?_
        refine z_get C0 hP (C := RX11) (T := TX11) (N := 11) (ci := 9) (index := 10) (k := 0) (ref := "WetSuitPedalsShoes") (zk_lt (rfl : zk 0 = 9) (by decide)) (zd_9 E (rfl : zk 0 = 9) _) rfl (zmi inU_11) 0 (by decide) (zm flRX11_10) rfl (v := .ref (E.1 1)) (rfl) dX11_two_28 ?_
        refine z_get C0 hP (C := RX3) (T := TX3) (N := 3) (ci := 3) (index := 93) (k := 1) (ref := "WetSuitPedalsShoes$Field") (zk_lt (rfl : zk 1 = 3) (by decide)) (zd_3 E (rfl : zk 1 = 3) _) rfl (zmi inU_3) 0 (by decide) (zm flRX11_93) rfl (v := .ref (E.1 2)) (rfl) dX11_two_31 ?_
        refine lv_iload_n hx hb dX11_two_34 rfl (lv_at hl 3 rfl) ?_
        refine z_Vi C0 hP hD hA hS (As := [.int sect]) (rest := []) (k := 2) (c_X1_has l E _ 2 n sect z_lit_Cou_2 (hR.1) (by omega)) (cwV 1 hts (zgV zbw mlRX11_97 imX1_has seX1_has iniRX1 coX1_has) rfl rfl rfl (by decide +kernel) ⟨Nat.le_of_ble_eq_true rfl, Nat.le_of_ble_eq_true rfl⟩) (zk_lt (rfl : zk 2 = 1) (by decide)) (zd_1 E (rfl : zk 2 = 1) _) rfl rfl rfl hl.1 rfl (Nat.le_of_ble_eq_true rfl) dX11_two_35 ⟨Nat.zero_le _, Nat.zero_le _⟩ (fun r4 G4 H locs hw4 hP hS => ?_)
        rcases hw4 with ⟨rfl, rfl, is, his, rfl⟩ | ⟨rfl, rfl, hno4⟩
        · skip
          have hz_is := zin_t his (by omega)
          have hy_is : zix (nI is) = is := zix_n (by omega)
          refine lv_if_ne (tgt := 47) hx hb dX11_two_38 (by decide) (fun _ => ?_) (fun h_ => absurd h_ (by decide))
          refine lv_iconst (v := (0 : Int32)) hx hb dX11_two_47 (by decide) ?_
          refine lv_istore (lv' := [(4, .int (0 : Int32)), (0, .ref (E.1 0)), (1, .int (nI io)), (2, .int (nI ip)), (3, .int (nI is))]) hx hb dX11_two_48 hl (by decide) rfl (fun ls hl => ?_)
          have cut_50 : ∀ (fuel : Nat), ∀ (k : Nat) (Gc : zG) (H : Heap) (locs : List Loc) (ls : Array Slot), (k ≤ 4) → (∀ t, (t < 48 ∨ (58 < t ∧ t < 89) ∨ 90 < t) → Gc t = G t) → (∀ j, j < k → Gc 89 j = q_tries r n io is j) → (∀ j, j < k → Gc 90 j = q_tries r n ip is j) → zP E Gc H → va_S (zA E s_.heap.size) s_.heap H locs → lv_has ls 5 [(0, .ref (E.1 0)), (1, .int (nI io)), (2, .int (nI ip)), (3, .int (nI is)), (4, .int (nI k))] → 4 - k < fuel → W p_ l e_ ({ frames := 5, cells := 0, slots := 0, locals := 113 } : Room) s_ m_ a_ b_ me_ c_ H locs 0 0 Q_ (F0 m_ 50 ls []) := by
            intro fuel
            induction fuel with
            | zero =>
              intro k  Gc  H locs ls hin hFc h89 h90 hP hS hl hfu
              exact absurd hfu (Nat.not_lt_zero _)
            | succ fuel ih_50 =>
              intro k  Gc  H locs ls hin hFc h89 h90 hP hS hl hfu_50
              refine lv_iload hx hb dX11_two_50 (lv_at hl 4 rfl) ?_
              refine lv_iconst (v := (3 : Int32)) hx hb dX11_two_52 (by decide) ?_
              refine z_N_gt hx hb (a := k) (b := 3) (tgt := 98) dX11_two_53 rfl rfl (by omega) (by omega) (by decide) (fun c_53 => ?_) (fun c_53 => ?_)
              · skip
                refine lv_aload_n hx hb dX11_two_98 rfl (lv_at hl 0 rfl) ?_
                refine z_get C0 hP (C := RX11) (T := TX11) (N := 11) (ci := 9) (index := 61) (k := 0) (ref := "WetSuitPedalsShoes") (zk_lt (rfl : zk 0 = 9) (by decide)) (zd_9 E (rfl : zk 0 = 9) _) rfl (zmi inU_11) 9 (by decide) (zm flRX11_61) rfl (v := .ref (E.1 88)) (rfl) dX11_two_99 ?_
                refine z_Vi C0 hP hD hA hS (As := []) (rest := []) (k := 88) (c_X2_settled l E _ ) (cwV 0 hts (zgV zbw mlRX11_251 imX2_settled seX2_settled iniRX2 coX2_settled) rfl rfl rfl (by decide +kernel) ⟨Nat.le_of_ble_eq_true rfl, Nat.le_of_ble_eq_true rfl⟩) (zk_lt (rfl : zk 88 = 2) (by decide)) (zd_2 E (rfl : zk 88 = 2) _) rfl rfl rfl hl.1 rfl (Nat.le_of_ble_eq_true rfl) dX11_two_102 ⟨Nat.zero_le _, Nat.zero_le _⟩ (fun r5 G5 H locs hw5 hP hS => ?_)
                obtain ⟨hr5, rfl⟩ := hw5
                have hr5 : s_two (q_tries r n io is) (q_tries r n ip is) = _ := (s_two_c (fun j hj => h89 j (by omega)) (fun j hj => h90 j (by omega))).symm.trans hr5
                subst hr5
                subst hQ_
                exact z_iret C0 hP hS (v := (s_two (q_tries r n io is) (q_tries r n ip is))) (by exact zQc_of (k := 0) (by simp [A_two, hz_io, hy_io, hz_ip, hy_ip, c_24, hne_, hz_is, hy_is, c_53]) (fun k hk => hFc k (by omega)) (hFc _ (by decide)) (z_plk (hFc _ (by decide)) hp)) dX11_two_105
              · skip
                refine lv_aload_n hx hb dX11_two_56 rfl (lv_at hl 0 rfl) ?_
                refine z_get C0 hP (C := RX11) (T := TX11) (N := 11) (ci := 9) (index := 61) (k := 0) (ref := "WetSuitPedalsShoes") (zk_lt (rfl : zk 0 = 9) (by decide)) (zd_9 E (rfl : zk 0 = 9) _) rfl (zmi inU_11) 9 (by decide) (zm flRX11_61) rfl (v := .ref (E.1 88)) (rfl) dX11_two_57 ?_
                refine z_get C0 hP (C := RX2) (T := TX2) (N := 2) (ci := 2) (index := 242) (k := 88) (ref := "WetSuitPedalsShoes$Duel") (zk_lt (rfl : zk 88 = 2) (by decide)) (zd_2 E (rfl : zk 88 = 2) _) rfl (zmi inU_2) 0 (by decide) (zm flRX11_242) rfl (v := .ref (E.1 89)) (rfl) dX11_two_60 ?_
                refine lv_iload hx hb dX11_two_63 (lv_at hl 4 rfl) ?_
                refine lv_aload_n hx hb dX11_two_65 rfl (lv_at hl 0 rfl) ?_
                refine lv_iload_n hx hb dX11_two_66 rfl (lv_at hl 1 rfl) ?_
                refine lv_iload_n hx hb dX11_two_67 rfl (lv_at hl 3 rfl) ?_
                refine lv_iload hx hb dX11_two_68 (lv_at hl 4 rfl) ?_
                refine z_Vi C0 hP hD hA hS (As := [.int (nI io), .int (nI is), .int (nI k)]) (rest := [.int (nI k), .ref (E.1 89)]) (k := 0) (c_X11_finishTrying l E _ r n na io is (nI k) (zFA_fr hR (fun k hk => hFc k (by omega)) hna) hkd hn10 hna (by omega) (by omega)) (cwV 3 hts (zgV zbw mlRX11_245 imX11_finishTrying seX11_finishTrying iniRX11 coX11_finishTrying) rfl rfl rfl (by decide +kernel) ⟨Nat.le_of_ble_eq_true rfl, Nat.le_of_ble_eq_true rfl⟩) (zk_lt (rfl : zk 0 = 9) (by decide)) (zd_9 E (rfl : zk 0 = 9) _) rfl rfl rfl hl.1 rfl (Nat.le_of_ble_eq_true rfl) dX11_two_70 ⟨Nat.zero_le _, Nat.zero_le _⟩ (fun r6 G6 H locs hw6 hP hS => ?_)
                obtain ⟨hr6, hF6⟩ := hw6
                subst hr6
                refine z_iast C0 hP hD hS (k := 89) (i := k) (v := (q_try r n io is (nI k))) (F := Gc 89) (hF6 _ (by decide)) (rfl : zk 89 = 11) (Nat.lt_of_lt_of_eq (show k < 4 by omega) (rfl : zl 89 = 4).symm) rfl dX11_two_73 (fun H locs hP hS => ?_)
                refine lv_aload_n hx hb dX11_two_74 rfl (lv_at hl 0 rfl) ?_
                refine z_get C0 hP (C := RX11) (T := TX11) (N := 11) (ci := 9) (index := 61) (k := 0) (ref := "WetSuitPedalsShoes") (zk_lt (rfl : zk 0 = 9) (by decide)) (zd_9 E (rfl : zk 0 = 9) _) rfl (zmi inU_11) 9 (by decide) (zm flRX11_61) rfl (v := .ref (E.1 88)) (rfl) dX11_two_75 ?_
                refine z_get C0 hP (C := RX2) (T := TX2) (N := 2) (ci := 2) (index := 248) (k := 88) (ref := "WetSuitPedalsShoes$Duel") (zk_lt (rfl : zk 88 = 2) (by decide)) (zd_2 E (rfl : zk 88 = 2) _) rfl (zmi inU_2) 1 (by decide) (zm flRX11_248) rfl (v := .ref (E.1 90)) (rfl) dX11_two_78 ?_
                refine lv_iload hx hb dX11_two_81 (lv_at hl 4 rfl) ?_
                refine lv_aload_n hx hb dX11_two_83 rfl (lv_at hl 0 rfl) ?_
                refine lv_iload_n hx hb dX11_two_84 rfl (lv_at hl 2 rfl) ?_
                refine lv_iload_n hx hb dX11_two_85 rfl (lv_at hl 3 rfl) ?_
                refine lv_iload hx hb dX11_two_86 (lv_at hl 4 rfl) ?_
                refine z_Vi C0 hP hD hA hS (As := [.int (nI ip), .int (nI is), .int (nI k)]) (rest := [.int (nI k), .ref (E.1 90)]) (k := 0) (c_X11_finishTrying l E _ r n na ip is (nI k) (zFA_fr hR (fun k hk => (g1_n (by omega)).trans ((hF6 k (by omega)).trans (hFc k (by omega)))) hna) hkd hn10 hna (by omega) (by omega)) (cwV 3 hts (zgV zbw mlRX11_245 imX11_finishTrying seX11_finishTrying iniRX11 coX11_finishTrying) rfl rfl rfl (by decide +kernel) ⟨Nat.le_of_ble_eq_true rfl, Nat.le_of_ble_eq_true rfl⟩) (zk_lt (rfl : zk 0 = 9) (by decide)) (zd_9 E (rfl : zk 0 = 9) _) rfl rfl rfl hl.1 rfl (Nat.le_of_ble_eq_true rfl) dX11_two_88 ⟨Nat.zero_le _, Nat.zero_le _⟩ (fun r7 G7 H locs hw7 hP hS => ?_)
                obtain ⟨hr7, hF7⟩ := hw7
                subst hr7
                refine z_iast C0 hP hD hS (k := 90) (i := k) (v := (q_try r n ip is (nI k))) (F := Gc 90) ((hF7 _ (by decide)).trans ((g1_n (by decide)).trans (hF6 _ (by decide)))) (rfl : zk 90 = 11) (Nat.lt_of_lt_of_eq (show k < 4 by omega) (rfl : zl 90 = 4).symm) rfl dX11_two_91 (fun H locs hP hS => ?_)
                refine lv_iinc (v := (nI (k + 1))) (lv' := [(4, .int (nI (k + 1))), (0, .ref (E.1 0)), (1, .int (nI io)), (2, .int (nI ip)), (3, .int (nI is))]) hx hb dX11_two_92 hl (k := 4) rfl (z_inc (by decide)) (by decide) rfl (fun ls hl => ?_)
                refine lv_goto (tgt := 50) hx hb dX11_two_95 (by decide) ?_
                exact ih_50 (k + 1) (g1 G7 90 (upd (Gc 90) k (q_try r n ip is (nI k)))) _ _ _ (by first | assumption | omega) (by exact fun k hk => (g1_n (by omega)).trans ((hF7 k (by omega)).trans ((g1_n (by omega)).trans ((hF6 k (by omega)).trans (hFc k (by omega)))))) (by intro j hj; exact (congrFun ((g1_n (by decide)).trans ((hF7 _ (by decide)).trans (g1_s _ _ _))) j).trans (s_up_l h89 rfl j hj)) (by intro j hj; exact (congrFun (g1_s _ _ _) j).trans (s_up_l h90 rfl j hj)) hP hS (lv_sub hl [1, 2, 3, 4, 0] rfl) (by omega)
          exact cut_50 (_ + 1) 0 G _ _ _ (by first | assumption | omega) (by exact fun _ _ => rfl) (by exact fun j hj => absurd hj (Nat.not_lt_zero j)) (by exact fun j hj => absurd hj (Nat.not_lt_zero j)) hP hS (lv_sub hl [1, 2, 3, 4, 0] rfl) (Nat.lt_succ_self _)
        · skip
          have hz_is := zin_f (by omega) hno4
          refine lv_if_ne (tgt := 47) hx hb dX11_two_38 (by decide) (fun h_ => absurd (by decide) h_) (fun _ => ?_)
          refine lv_aload_n hx hb dX11_two_41 rfl (lv_at hl 0 rfl) ?_
          refine lv_iconst (v := (-1 : Int32)) hx hb dX11_two_42 (by decide) ?_
          refine z_Vi C0 hP hD hA hS (As := [.int (-1 : Int32)]) (rest := []) (k := 0) (c_X11_refuse l E _ (-1 : Int32) 1 (by decide) (by decide) (by decide)) (cwV 1 hts (zgV zbw mlRX11_72 imX11_refuse seX11_refuse iniRX11 coX11_refuse) rfl rfl rfl (by decide +kernel) ⟨Nat.le_of_ble_eq_true rfl, Nat.le_of_ble_eq_true rfl⟩) (zk_lt (rfl : zk 0 = 9) (by decide)) (zd_9 E (rfl : zk 0 = 9) _) rfl rfl rfl hl.1 rfl (Nat.le_of_ble_eq_true rfl) dX11_two_43 ⟨Nat.zero_le _, Nat.zero_le _⟩ (fun r8 G8 H locs hw8 hP hS => ?_)
          obtain ⟨rfl, rfl⟩ := hw8
          subst hQ_
          exact z_iret C0 hP hS (v := (-1 : Int32)) (by exact zQc_of (k := 1) (by simp [A_two, hz_io, hy_io, hz_ip, hy_ip, c_24, hne_, hz_is]) (fun k hk => g1_n (by omega)) (g1_s _ _ _) (z_plk (g1_n (by decide)) hp)) dX11_two_46
    · skip
      have hz_ip := zin_f (by omega) hno2
      refine lv_if_eq (tgt := 41) hx hb dX11_two_19 (by decide) (fun _ => ?_) (fun h_ => absurd (by decide) h_)
      refine lv_aload_n hx hb dX11_two_41 rfl (lv_at hl 0 rfl) ?_
      refine lv_iconst (v := (-1 : Int32)) hx hb dX11_two_42 (by decide) ?_
      refine z_Vi C0 hP hD hA hS (As := [.int (-1 : Int32)]) (rest := []) (k := 0) (c_X11_refuse l E _ (-1 : Int32) 1 (by decide) (by decide) (by decide)) (cwV 1 hts (zgV zbw mlRX11_72 imX11_refuse seX11_refuse iniRX11 coX11_refuse) rfl rfl rfl (by decide +kernel) ⟨Nat.le_of_ble_eq_true rfl, Nat.le_of_ble_eq_true rfl⟩) (zk_lt (rfl : zk 0 = 9) (by decide)) (zd_9 E (rfl : zk 0 = 9) _) rfl rfl rfl hl.1 rfl (Nat.le_of_ble_eq_true rfl) dX11_two_43 ⟨Nat.zero_le _, Nat.zero_le _⟩ (fun r9 G9 H locs hw9 hP hS => ?_)
      obtain ⟨rfl, rfl⟩ := hw9
      subst hQ_
      exact z_iret C0 hP hS (v := (-1 : Int32)) (by exact zQc_of (k := 1) (by simp [A_two, hz_io, hy_io, hz_ip]) (fun k hk => g1_n (by omega)) (g1_s _ _ _) (z_plk (g1_n (by decide)) hp)) dX11_two_46
  · skip
    have hz_io := zin_f (by omega) hno1
    refine lv_if_eq (tgt := 41) hx hb dX11_two_8 (by decide) (fun _ => ?_) (fun h_ => absurd (by decide) h_)
    refine lv_aload_n hx hb dX11_two_41 rfl (lv_at hl 0 rfl) ?_
    refine lv_iconst (v := (-1 : Int32)) hx hb dX11_two_42 (by decide) ?_
    refine z_Vi C0 hP hD hA hS (As := [.int (-1 : Int32)]) (rest := []) (k := 0) (c_X11_refuse l E _ (-1 : Int32) 1 (by decide) (by decide) (by decide)) (cwV 1 hts (zgV zbw mlRX11_72 imX11_refuse seX11_refuse iniRX11 coX11_refuse) rfl rfl rfl (by decide +kernel) ⟨Nat.le_of_ble_eq_true rfl, Nat.le_of_ble_eq_true rfl⟩) (zk_lt (rfl : zk 0 = 9) (by decide)) (zd_9 E (rfl : zk 0 = 9) _) rfl rfl rfl hl.1 rfl (Nat.le_of_ble_eq_true rfl) dX11_two_43 ⟨Nat.zero_le _, Nat.zero_le _⟩ (fun r10 G10 H locs hw10 hP hS => ?_)
    obtain ⟨rfl, rfl⟩ := hw10
    subst hQ_
    exact z_iret C0 hP hS (v := (-1 : Int32)) (by exact zQc_of (k := 1) (by simp [A_two, hz_io]) (fun k hk => g1_n (by omega)) (g1_s _ _ _) (z_plk (g1_n (by decide)) hp)) dX11_two_46
theorem mlRX12_189 : Cond.methodLink RX12 189 yX12_finishAgainst ∈ zU := zU_m 1103 (by decide +kernel) rfl
theorem coX12_finishAgainst : Cond.code yX12_finishAgainst cX12_finishAgainst 5 (some .int) ∈ zU := zU_m 1106 (by decide +kernel) rfl
theorem imX12_finishAgainst : Cond.instanceMethod yX12_finishAgainst ∈ zU := zU_m 1105 (by decide +kernel) rfl
theorem seX12_finishAgainst : Cond.selects RX12 yX12_finishAgainst yX12_finishAgainst ∈ zU := zU_m 45 (by decide +kernel) rfl
set_option maxHeartbeats 4000000 in
set_option maxRecDepth 100000 in
theorem c_X12_two (l : Launch) (E : zE) (G : zG) (r : Nat → Int32) (n na : Nat) (one other sect : Int32) (hM : G 93 = r) (hrn : r 0 = nI n) (hrna : r 1 = nI na) (hn10 : n ≤ 10) (hna : na ≤ 5) : zMi l yX12_two wsX12_two ({ frames := 7, cells := 0, slots := 0, locals := 166 } : Room) E G [.ref (E.1 92), .int one, .int other, .int sect] (fun r1 G1 => zQm (A_two r n na one other sect) G r1 G1) := by
  refine zOf (cc := cX12_two) (nL := 8) (ret := (some .int)) RX12 (by decide) rfl rfl (Nat.le_of_ble_eq_true rfl) ?_
  intro p_ e_ s_ m_ a_ b_ me_ c_ ls C0 hP hS hl
  have hx := C0.1
  have hb := C0.2.1
  have hts := C0.2.2.2.2.1
  have hD : zD E (zA E s_.heap.size) := C0.2.2.2.2.2.2.2.2
  have hA : ∀ q : Nat, s_.heap.size ≤ q → zA E s_.heap.size q := fun q h => Or.inr h
  refine z_gen (fun Q_ hQ_ => ?_)
  have hl : lv_has ls 8 [(0, .ref (E.1 92)), (1, .int one), (2, .int other), (3, .int sect)] := hl
  refine lv_aload_n hx hb dX12_two_0 rfl (lv_at hl 0 rfl) ?_
  refine lv_iload_n hx hb dX12_two_1 rfl (lv_at hl 1 rfl) ?_
  refine z_Vi C0 hP hD hA hS (As := [.int one]) (rest := []) (k := 92) (c_X12_isAthlete l E _ na one ((congrFun (hM) _).trans (hrna)) (by omega)) (cwV 1 hts (zgV zbw mlRX12_136 imX12_isAthlete seX12_isAthlete iniRX12 coX12_isAthlete) rfl rfl rfl (by decide +kernel) ⟨Nat.le_of_ble_eq_true rfl, Nat.le_of_ble_eq_true rfl⟩) (zk_lt (rfl : zk 92 = 10) (by decide)) (zd_10 E (rfl : zk 92 = 10) _) rfl rfl rfl hl.1 rfl (Nat.le_of_ble_eq_true rfl) dX12_two_2 ⟨Nat.zero_le _, Nat.zero_le _⟩ (fun r1 G1 H locs hw1 hP hS => ?_)
  rcases hw1 with ⟨rfl, rfl, io, hio, rfl⟩ | ⟨rfl, rfl, hno1⟩
  · skip
    have hz_io := zin_t hio (by omega)
    have hy_io : zix (nI io) = io := zix_n (by omega)
    refine lv_if_eq (tgt := 29) hx hb dX12_two_5 (by decide) (fun h_ => absurd h_ (by decide)) (fun _ => ?_)
    refine lv_aload_n hx hb dX12_two_8 rfl (lv_at hl 0 rfl) ?_
    refine lv_iload_n hx hb dX12_two_9 rfl (lv_at hl 2 rfl) ?_
    refine z_Vi C0 hP hD hA hS (As := [.int other]) (rest := []) (k := 92) (c_X12_isAthlete l E _ na other ((congrFun (hM) _).trans (hrna)) (by omega)) (cwV 1 hts (zgV zbw mlRX12_136 imX12_isAthlete seX12_isAthlete iniRX12 coX12_isAthlete) rfl rfl rfl (by decide +kernel) ⟨Nat.le_of_ble_eq_true rfl, Nat.le_of_ble_eq_true rfl⟩) (zk_lt (rfl : zk 92 = 10) (by decide)) (zd_10 E (rfl : zk 92 = 10) _) rfl rfl rfl hl.1 rfl (Nat.le_of_ble_eq_true rfl) dX12_two_10 ⟨Nat.zero_le _, Nat.zero_le _⟩ (fun r2 G2 H locs hw2 hP hS => ?_)
    rcases hw2 with ⟨rfl, rfl, ip, hip, rfl⟩ | ⟨rfl, rfl, hno2⟩
    · skip
      have hz_ip := zin_t hip (by omega)
      have hy_ip : zix (nI ip) = ip := zix_n (by omega)
      refine lv_if_eq (tgt := 29) hx hb dX12_two_13 (by decide) (fun h_ => absurd h_ (by decide)) (fun _ => ?_)
      refine lv_iload_n hx hb dX12_two_16 rfl (lv_at hl 1 rfl) ?_
      refine lv_iload_n hx hb dX12_two_17 rfl (lv_at hl 2 rfl) ?_
      refine z_N_eq hx hb (a := io) (b := ip) (tgt := 29) dX12_two_18 rfl rfl (by omega) (by omega) (by decide) (fun c_18 => ?_) (fun c_18 => ?_)
      · skip
        have hne_ : nI io = nI ip := congrArg nI c_18
        refine lv_aload_n hx hb dX12_two_29 rfl (lv_at hl 0 rfl) ?_
        refine lv_iconst (v := (-1 : Int32)) hx hb dX12_two_30 (by decide) ?_
        refine z_Vi C0 hP hD hA hS (As := [.int (-1 : Int32)]) (rest := []) (k := 92) (c_X12_no l E _ (-1 : Int32) 1 (by decide) (by decide)) (cwV 1 hts (zgV zbw mlRX12_56 imX12_no seX12_no iniRX12 coX12_no) rfl rfl rfl (by decide +kernel) ⟨Nat.le_of_ble_eq_true rfl, Nat.le_of_ble_eq_true rfl⟩) (zk_lt (rfl : zk 92 = 10) (by decide)) (zd_10 E (rfl : zk 92 = 10) _) rfl rfl rfl hl.1 rfl (Nat.le_of_ble_eq_true rfl) dX12_two_31 ⟨Nat.zero_le _, Nat.zero_le _⟩ (fun r3 G3 H locs hw3 hP hS => ?_)
        obtain ⟨rfl, rfl⟩ := hw3
        subst hQ_
        exact z_iret C0 hP hS (v := (-1 : Int32)) (by exact zQm_of (k := 1) (by simp [A_two, hz_io, hy_io, hz_ip, hy_ip, c_18, hne_]) (fun k hk => g1_n (by omega)) (g1_s _ _ _)) dX12_two_34
      · skip
        have hne_ : ¬ nI io = nI ip := fun q => c_18 ((nI_eq (by omega) (by omega)).mp q)
        refine lv_aload_n hx hb dX12_two_21 rfl (lv_at hl 0 rfl) ?_
        refine lv_iload_n hx hb dX12_two_22 rfl (lv_at hl 3 rfl) ?_
        refine z_Vi C0 hP hD hA hS (As := [.int sect]) (rest := []) (k := 92) (c_X12_isSection l E _ n sect ((congrFun (hM) _).trans (hrn)) (by omega)) (cwV 1 hts (zgV zbw mlRX12_139 imX12_isSection seX12_isSection iniRX12 coX12_isSection) rfl rfl rfl (by decide +kernel) ⟨Nat.le_of_ble_eq_true rfl, Nat.le_of_ble_eq_true rfl⟩) (zk_lt (rfl : zk 92 = 10) (by decide)) (zd_10 E (rfl : zk 92 = 10) _) rfl rfl rfl hl.1 rfl (Nat.le_of_ble_eq_true rfl) dX12_two_23 ⟨Nat.zero_le _, Nat.zero_le _⟩ (fun r4 G4 H locs hw4 hP hS => ?_)
        rcases hw4 with ⟨rfl, rfl, is, his, rfl⟩ | ⟨rfl, rfl, hno4⟩
        · skip
          have hz_is := zin_t his (by omega)
          have hy_is : zix (nI is) = is := zix_n (by omega)
          refine lv_if_ne (tgt := 35) hx hb dX12_two_26 (by decide) (fun _ => ?_) (fun h_ => absurd h_ (by decide))
          refine lv_iconst (v := (0 : Int32)) hx hb dX12_two_35 (by decide) ?_
          refine lv_istore (lv' := [(4, .int (0 : Int32)), (0, .ref (E.1 92)), (1, .int (nI io)), (2, .int (nI ip)), (3, .int (nI is))]) hx hb dX12_two_36 hl (by decide) rfl (fun ls hl => ?_)
          have cut_38 : ∀ (fuel : Nat), ∀ (x : Nat) (Gc : zG) (H : Heap) (locs : List Loc) (ls : Array Slot), (x ≤ 4) → (∀ k, (k < 94 ∨ (94 < k ∧ k < 100) ∨ 102 < k) → Gc k = G k) → (s_fst (s_pair (q_tries r n io is) (q_tries r n ip is)) (4 * x) = 4 * x) → zP E Gc H → va_S (zA E s_.heap.size) s_.heap H locs → lv_has ls 8 [(0, .ref (E.1 92)), (1, .int (nI io)), (2, .int (nI ip)), (3, .int (nI is)), (4, .int (nI x))] → 4 - x < fuel → W p_ l e_ ({ frames := 7, cells := 0, slots := 0, locals := 166 } : Room) s_ m_ a_ b_ me_ c_ H locs 0 0 Q_ (F0 m_ 38 ls []) := by
            intro fuel
            induction fuel with
            | zero =>
              intro x  Gc  H locs ls hix hFc hfx hP hS hl hfu
              exact absurd hfu (Nat.not_lt_zero _)
            | succ fuel ih_38 =>
              intro x  Gc  H locs ls hix hFc hfx hP hS hl hfu_38
              refine lv_iload hx hb dX12_two_38 (lv_at hl 4 rfl) ?_
              refine lv_iconst (v := (4 : Int32)) hx hb dX12_two_40 (by decide) ?_
              refine z_N_ge hx hb (a := x) (b := 4) (tgt := 153) dX12_two_41 rfl rfl (by omega) (by omega) (by decide) (fun c_41 => ?_) (fun c_41 => ?_)
              · skip
                have e9 := s_two_n (by have e8 : x = 4 := (by omega); subst e8; exact hfx)
                refine lv_bipush (v := (-9 : Int32)) hx hb dX12_two_153 (by decide) ?_
                subst hQ_
                exact z_iret C0 hP hS (v := (-9 : Int32)) (by exact zQm_of (k := 0) (by simp [A_two, hz_io, hy_io, hz_ip, hy_ip, c_18, hne_, hz_is, hy_is, c_41, e9]) (fun k hk => hFc k (by omega)) (hFc _ (by decide))) dX12_two_155
              · skip
                refine lv_iconst (v := (0 : Int32)) hx hb dX12_two_44 (by decide) ?_
                refine lv_istore (lv' := [(5, .int (0 : Int32)), (0, .ref (E.1 92)), (1, .int (nI io)), (2, .int (nI ip)), (3, .int (nI is)), (4, .int (nI x))]) hx hb dX12_two_45 hl (by decide) rfl (fun ls hl => ?_)
                have cut_47 : ∀ (fuel : Nat), ∀ (y : Nat) (Gc : zG) (H : Heap) (locs : List Loc) (ls : Array Slot), (y ≤ 4) → (∀ k, (k < 94 ∨ (94 < k ∧ k < 100) ∨ 102 < k) → Gc k = G k) → (s_fst (s_pair (q_tries r n io is) (q_tries r n ip is)) (4 * x + y) = 4 * x + y) → zP E Gc H → va_S (zA E s_.heap.size) s_.heap H locs → lv_has ls 8 [(0, .ref (E.1 92)), (1, .int (nI io)), (2, .int (nI ip)), (3, .int (nI is)), (4, .int (nI x)), (5, .int (nI y))] → 4 - y < fuel → W p_ l e_ ({ frames := 7, cells := 0, slots := 0, locals := 166 } : Room) s_ m_ a_ b_ me_ c_ H locs 0 0 Q_ (F0 m_ 47 ls []) := by
                  intro fuel
                  induction fuel with
                  | zero =>
                    intro y  Gc  H locs ls hiy hFc hfy hP hS hl hfu
                    exact absurd hfu (Nat.not_lt_zero _)
                  | succ fuel ih_47 =>
                    intro y  Gc  H locs ls hiy hFc hfy hP hS hl hfu_47
                    refine lv_iload hx hb dX12_two_47 (lv_at hl 5 rfl) ?_
                    refine lv_iconst (v := (4 : Int32)) hx hb dX12_two_49 (by decide) ?_
                    refine z_N_ge hx hb (a := y) (b := 4) (tgt := 147) dX12_two_50 rfl rfl (by omega) (by omega) (by decide) (fun c_50 => ?_) (fun c_50 => ?_)
                    · skip
                      refine lv_iinc (v := (nI (x + 1))) (lv' := [(4, .int (nI (x + 1))), (0, .ref (E.1 92)), (1, .int (nI io)), (2, .int (nI ip)), (3, .int (nI is)), (5, .int (nI y))]) hx hb dX12_two_147 hl (k := 4) rfl (z_inc (by decide)) (by decide) rfl (fun ls hl => ?_)
                      refine lv_goto (tgt := 38) hx hb dX12_two_150 (by decide) ?_
                      exact ih_38 (x + 1) Gc _ _ _ (by first | assumption | omega) (by exact fun k hk => hFc k (by omega)) (by rw [show 4 * (x + 1) = 4 * x + y by omega]; exact hfy) hP hS (lv_sub hl [1, 2, 3, 4, 0] rfl) (by omega)
                    · skip
                      refine lv_iconst (v := (1 : Int32)) hx hb dX12_two_53 (by decide) ?_
                      refine lv_istore (lv' := [(6, .int (1 : Int32)), (0, .ref (E.1 92)), (1, .int (nI io)), (2, .int (nI ip)), (3, .int (nI is)), (4, .int (nI x)), (5, .int (nI y))]) hx hb dX12_two_54 hl (by decide) rfl (fun ls hl => ?_)
                      refine lv_iconst (v := (0 : Int32)) hx hb dX12_two_56 (by decide) ?_
                      refine lv_istore (lv' := [(7, .int (0 : Int32)), (6, .int (1 : Int32)), (0, .ref (E.1 92)), (1, .int (nI io)), (2, .int (nI ip)), (3, .int (nI is)), (4, .int (nI x)), (5, .int (nI y))]) hx hb dX12_two_57 hl (by decide) rfl (fun ls hl => ?_)
                      have cut_59 : ∀ (fuel : Nat), ∀ (k s : Nat) (Gc : zG) (H : Heap) (locs : List Loc) (ls : Array Slot), (k ≤ 4) → (∀ k, (k < 94 ∨ (94 < k ∧ k < 100) ∨ 102 < k) → Gc k = G k) → (s = s_all (s_both (q_tries r n io is) (q_tries r n ip is) x y) k) → zP E Gc H → va_S (zA E s_.heap.size) s_.heap H locs → lv_has ls 8 [(0, .ref (E.1 92)), (1, .int (nI io)), (2, .int (nI ip)), (3, .int (nI is)), (4, .int (nI x)), (5, .int (nI y)), (6, .int (nI s)), (7, .int (nI k))] → 4 - k < fuel → W p_ l e_ ({ frames := 7, cells := 0, slots := 0, locals := 166 } : Room) s_ m_ a_ b_ me_ c_ H locs 0 0 Q_ (F0 m_ 59 ls []) := by
                        intro fuel
                        induction fuel with
                        | zero =>
                          intro k s  Gc  H locs ls hik hFc hs hP hS hl hfu
                          exact absurd hfu (Nat.not_lt_zero _)
                        | succ fuel ih_59 =>
                          intro k s  Gc  H locs ls hik hFc hs hP hS hl hfu_59
                          refine lv_iload hx hb dX12_two_59 (lv_at hl 7 rfl) ?_
                          refine lv_iconst (v := (4 : Int32)) hx hb dX12_two_61 (by decide) ?_
                          refine z_N_ge hx hb (a := k) (b := 4) (tgt := 127) dX12_two_62 rfl rfl (by omega) (by omega) (by decide) (fun c_62 => ?_) (fun c_62 => ?_)
                          · skip
                            refine lv_iload hx hb dX12_two_127 (lv_at hl 6 rfl) ?_
                            refine z_0_eq hx hb (a := s) (tgt := 141) dX12_two_129 rfl (by (have h9 := s_all_le (s_both (q_tries r n io is) (q_tries r n ip is) x y) k; omega)) (by decide) (fun c_129 => ?_) (fun c_129 => ?_)
                            · skip
                              refine lv_iinc (v := (nI (y + 1))) (lv' := [(5, .int (nI (y + 1))), (0, .ref (E.1 92)), (1, .int (nI io)), (2, .int (nI ip)), (3, .int (nI is)), (4, .int (nI x)), (6, .int (nI s)), (7, .int (nI k))]) hx hb dX12_two_141 hl (k := 5) rfl (z_inc (by decide)) (by decide) rfl (fun ls hl => ?_)
                              refine lv_goto (tgt := 47) hx hb dX12_two_144 (by decide) ?_
                              exact ih_47 (y + 1) Gc _ _ _ (by first | assumption | omega) (by exact fun k hk => hFc k (by omega)) (by have e9 : k = 4 := (by omega); subst e9; exact s_fst_no hfy (s_both_0 (by omega) (hs.symm.trans c_129))) hP hS (lv_sub hl [1, 2, 3, 4, 5, 0] rfl) (by omega)
                            · skip
                              have e9 := s_two_y (by omega) (by omega) hfy (s_both_1 (by have e8 : k = 4 := (by omega); subst e8; exact fun z => c_129 (hs.trans z)))
                              refine lv_bipush (v := (10 : Int32)) hx hb dX12_two_132 (by decide) ?_
                              refine lv_iload hx hb dX12_two_134 (lv_at hl 4 rfl) ?_
                              refine z_imul hx hb (a := 10) (b := x) (n := 10 * x) dX12_two_136 rfl rfl rfl ?_
                              refine lv_iload hx hb dX12_two_137 (lv_at hl 5 rfl) ?_
                              refine z_iadd hx hb (a := 10 * x) (b := y) (n := (10 * x) + y) dX12_two_139 rfl rfl rfl ?_
                              subst hQ_
                              exact z_iret C0 hP hS (v := (nI ((10 * x) + y))) (by exact zQm_of (k := 0) (by simp [A_two, hz_io, hy_io, hz_ip, hy_ip, c_18, hne_, hz_is, hy_is, c_41, c_50, c_62, c_129, e9]) (fun k hk => hFc k (by omega)) (hFc _ (by decide))) dX12_two_140
                          · skip
                            refine lv_iload hx hb dX12_two_65 (lv_at hl 6 rfl) ?_
                            refine lv_aload_n hx hb dX12_two_67 rfl (lv_at hl 0 rfl) ?_
                            refine lv_iload_n hx hb dX12_two_68 rfl (lv_at hl 1 rfl) ?_
                            refine lv_iload_n hx hb dX12_two_69 rfl (lv_at hl 3 rfl) ?_
                            refine lv_iload hx hb dX12_two_70 (lv_at hl 7 rfl) ?_
                            refine lv_iload hx hb dX12_two_72 (lv_at hl 5 rfl) ?_
                            refine z_Vi C0 hP hD hA hS (As := [.int (nI io), .int (nI is), .int (nI k), .int (nI y)]) (rest := [.int (nI s)]) (k := 92) (c_X12_finishAgainst l E _ r n na io is k y ((hFc _ (by decide)).trans (hM)) hrn hrna hn10 hna (by omega) (by omega) (by omega) (by omega)) (cwV 4 hts (zgV zbw mlRX12_189 imX12_finishAgainst seX12_finishAgainst iniRX12 coX12_finishAgainst) rfl rfl rfl (by decide +kernel) ⟨Nat.le_of_ble_eq_true rfl, Nat.le_of_ble_eq_true rfl⟩) (zk_lt (rfl : zk 92 = 10) (by decide)) (zd_10 E (rfl : zk 92 = 10) _) rfl rfl rfl hl.1 rfl (Nat.le_of_ble_eq_true rfl) dX12_two_74 ⟨Nat.zero_le _, Nat.zero_le _⟩ (fun r5 G5 H locs hw5 hP hS => ?_)
                            obtain ⟨hr5, hF5⟩ := hw5
                            have hr5 : s_hind (q_tries r n io is) k y = _ := (s_hind_q _ _ _ _ _ _).trans hr5
                            subst hr5
                            refine lv_aload_n hx hb dX12_two_77 rfl (lv_at hl 0 rfl) ?_
                            refine lv_iload_n hx hb dX12_two_78 rfl (lv_at hl 1 rfl) ?_
                            refine lv_iload_n hx hb dX12_two_79 rfl (lv_at hl 3 rfl) ?_
                            refine lv_iload hx hb dX12_two_80 (lv_at hl 4 rfl) ?_
                            refine lv_iload hx hb dX12_two_82 (lv_at hl 5 rfl) ?_
                            refine z_Vi C0 hP hD hA hS (As := [.int (nI io), .int (nI is), .int (nI x), .int (nI y)]) (rest := [.int (s_hind (q_tries r n io is) k y), .int (nI s)]) (k := 92) (c_X12_finishAgainst l E _ r n na io is x y ((hF5 _ (by decide)).trans ((hFc _ (by decide)).trans (hM))) hrn hrna hn10 hna (by omega) (by omega) (by omega) (by omega)) (cwV 4 hts (zgV zbw mlRX12_189 imX12_finishAgainst seX12_finishAgainst iniRX12 coX12_finishAgainst) rfl rfl rfl (by decide +kernel) ⟨Nat.le_of_ble_eq_true rfl, Nat.le_of_ble_eq_true rfl⟩) (zk_lt (rfl : zk 92 = 10) (by decide)) (zd_10 E (rfl : zk 92 = 10) _) rfl rfl rfl hl.1 rfl (Nat.le_of_ble_eq_true rfl) dX12_two_84 ⟨Nat.zero_le _, Nat.zero_le _⟩ (fun r6 G6 H locs hw6 hP hS => ?_)
                            obtain ⟨hr6, hF6⟩ := hw6
                            have hr6 : s_hind (q_tries r n io is) x y = _ := (s_hind_q _ _ _ _ _ _).trans hr6
                            subst hr6
                            refine lv_icmp_lt (tgt := 117) hx hb dX12_two_87 (by decide) (fun c_87 => ?_) (fun c_87 => ?_)
                            · skip
                              refine lv_iconst (v := (0 : Int32)) hx hb dX12_two_117 (by decide) ?_
                              refine lv_iand hx hb dX12_two_118 ?_
                              refine z_eqi (y := (0 : Int32)) (z_and0 _) ?_
                              refine lv_istore (lv' := [(6, .int (0 : Int32)), (0, .ref (E.1 92)), (1, .int (nI io)), (2, .int (nI ip)), (3, .int (nI is)), (4, .int (nI x)), (5, .int (nI y)), (7, .int (nI k))]) hx hb dX12_two_119 hl (by decide) rfl (fun ls hl => ?_)
                              refine lv_iinc (v := (nI (k + 1))) (lv' := [(7, .int (nI (k + 1))), (6, .int (0 : Int32)), (0, .ref (E.1 92)), (1, .int (nI io)), (2, .int (nI ip)), (3, .int (nI is)), (4, .int (nI x)), (5, .int (nI y))]) hx hb dX12_two_121 hl (k := 7) rfl (z_inc (by decide)) (by decide) rfl (fun ls hl => ?_)
                              refine lv_goto (tgt := 59) hx hb dX12_two_124 (by decide) ?_
                              exact ih_59 (k + 1) 0 G6 _ _ _ (by first | assumption | omega) (by exact fun k hk => (hF6 k (by omega)).trans ((hF5 k (by omega)).trans (hFc k (by omega)))) (by exact (if_neg (fun q => (of_decide_eq_true q).1 c_87)).symm) hP hS (lv_sub hl [2, 3, 4, 5, 6, 7, 1, 0] rfl) (by omega)
                            · skip
                              refine lv_aload_n hx hb dX12_two_90 rfl (lv_at hl 0 rfl) ?_
                              refine lv_iload_n hx hb dX12_two_91 rfl (lv_at hl 2 rfl) ?_
                              refine lv_iload_n hx hb dX12_two_92 rfl (lv_at hl 3 rfl) ?_
                              refine lv_iload hx hb dX12_two_93 (lv_at hl 7 rfl) ?_
                              refine lv_iload hx hb dX12_two_95 (lv_at hl 4 rfl) ?_
                              refine z_Vi C0 hP hD hA hS (As := [.int (nI ip), .int (nI is), .int (nI k), .int (nI x)]) (rest := [.int (nI s)]) (k := 92) (c_X12_finishAgainst l E _ r n na ip is k x ((hF6 _ (by decide)).trans ((hF5 _ (by decide)).trans ((hFc _ (by decide)).trans (hM)))) hrn hrna hn10 hna (by omega) (by omega) (by omega) (by omega)) (cwV 4 hts (zgV zbw mlRX12_189 imX12_finishAgainst seX12_finishAgainst iniRX12 coX12_finishAgainst) rfl rfl rfl (by decide +kernel) ⟨Nat.le_of_ble_eq_true rfl, Nat.le_of_ble_eq_true rfl⟩) (zk_lt (rfl : zk 92 = 10) (by decide)) (zd_10 E (rfl : zk 92 = 10) _) rfl rfl rfl hl.1 rfl (Nat.le_of_ble_eq_true rfl) dX12_two_97 ⟨Nat.zero_le _, Nat.zero_le _⟩ (fun r7 G7 H locs hw7 hP hS => ?_)
                              obtain ⟨hr7, hF7⟩ := hw7
                              have hr7 : s_hind (q_tries r n ip is) k x = _ := (s_hind_q _ _ _ _ _ _).trans hr7
                              subst hr7
                              refine lv_aload_n hx hb dX12_two_100 rfl (lv_at hl 0 rfl) ?_
                              refine lv_iload_n hx hb dX12_two_101 rfl (lv_at hl 2 rfl) ?_
                              refine lv_iload_n hx hb dX12_two_102 rfl (lv_at hl 3 rfl) ?_
                              refine lv_iload hx hb dX12_two_103 (lv_at hl 5 rfl) ?_
                              refine lv_iload hx hb dX12_two_105 (lv_at hl 4 rfl) ?_
                              refine z_Vi C0 hP hD hA hS (As := [.int (nI ip), .int (nI is), .int (nI y), .int (nI x)]) (rest := [.int (s_hind (q_tries r n ip is) k x), .int (nI s)]) (k := 92) (c_X12_finishAgainst l E _ r n na ip is y x ((hF7 _ (by decide)).trans ((hF6 _ (by decide)).trans ((hF5 _ (by decide)).trans ((hFc _ (by decide)).trans (hM))))) hrn hrna hn10 hna (by omega) (by omega) (by omega) (by omega)) (cwV 4 hts (zgV zbw mlRX12_189 imX12_finishAgainst seX12_finishAgainst iniRX12 coX12_finishAgainst) rfl rfl rfl (by decide +kernel) ⟨Nat.le_of_ble_eq_true rfl, Nat.le_of_ble_eq_true rfl⟩) (zk_lt (rfl : zk 92 = 10) (by decide)) (zd_10 E (rfl : zk 92 = 10) _) rfl rfl rfl hl.1 rfl (Nat.le_of_ble_eq_true rfl) dX12_two_107 ⟨Nat.zero_le _, Nat.zero_le _⟩ (fun r8 G8 H locs hw8 hP hS => ?_)
                              obtain ⟨hr8, hF8⟩ := hw8
                              have hr8 : s_hind (q_tries r n ip is) y x = _ := (s_hind_q _ _ _ _ _ _).trans hr8
                              subst hr8
                              refine lv_icmp_lt (tgt := 117) hx hb dX12_two_110 (by decide) (fun c_110 => ?_) (fun c_110 => ?_)
                              · skip
                                refine lv_iconst (v := (0 : Int32)) hx hb dX12_two_117 (by decide) ?_
                                refine lv_iand hx hb dX12_two_118 ?_
                                refine z_eqi (y := (0 : Int32)) (z_and0 _) ?_
                                refine lv_istore (lv' := [(6, .int (0 : Int32)), (0, .ref (E.1 92)), (1, .int (nI io)), (2, .int (nI ip)), (3, .int (nI is)), (4, .int (nI x)), (5, .int (nI y)), (7, .int (nI k))]) hx hb dX12_two_119 hl (by decide) rfl (fun ls hl => ?_)
                                refine lv_iinc (v := (nI (k + 1))) (lv' := [(7, .int (nI (k + 1))), (6, .int (0 : Int32)), (0, .ref (E.1 92)), (1, .int (nI io)), (2, .int (nI ip)), (3, .int (nI is)), (4, .int (nI x)), (5, .int (nI y))]) hx hb dX12_two_121 hl (k := 7) rfl (z_inc (by decide)) (by decide) rfl (fun ls hl => ?_)
                                refine lv_goto (tgt := 59) hx hb dX12_two_124 (by decide) ?_
                                exact ih_59 (k + 1) 0 G8 _ _ _ (by first | assumption | omega) (by exact fun k hk => (hF8 k (by omega)).trans ((hF7 k (by omega)).trans ((hF6 k (by omega)).trans ((hF5 k (by omega)).trans (hFc k (by omega)))))) (by exact (if_neg (fun q => (of_decide_eq_true q).2 c_110)).symm) hP hS (lv_sub hl [2, 3, 4, 5, 6, 7, 1, 0] rfl) (by omega)
                              · skip
                                refine lv_iconst (v := (1 : Int32)) hx hb dX12_two_113 (by decide) ?_
                                refine lv_goto (tgt := 118) hx hb dX12_two_114 (by decide) ?_
                                refine lv_iand hx hb dX12_two_118 ?_
                                refine z_eqi (y := (nI s)) (z_and1 (by rw [hs]; exact s_all_le _ _)) ?_
                                refine lv_istore (lv' := [(6, .int (nI s)), (0, .ref (E.1 92)), (1, .int (nI io)), (2, .int (nI ip)), (3, .int (nI is)), (4, .int (nI x)), (5, .int (nI y)), (7, .int (nI k))]) hx hb dX12_two_119 hl (by decide) rfl (fun ls hl => ?_)
                                refine lv_iinc (v := (nI (k + 1))) (lv' := [(7, .int (nI (k + 1))), (6, .int (nI s)), (0, .ref (E.1 92)), (1, .int (nI io)), (2, .int (nI ip)), (3, .int (nI is)), (4, .int (nI x)), (5, .int (nI y))]) hx hb dX12_two_121 hl (k := 7) rfl (z_inc (by decide)) (by decide) rfl (fun ls hl => ?_)
                                refine lv_goto (tgt := 59) hx hb dX12_two_124 (by decide) ?_
                                exact ih_59 (k + 1) s G8 _ _ _ (by first | assumption | omega) (by exact fun k hk => (hF8 k (by omega)).trans ((hF7 k (by omega)).trans ((hF6 k (by omega)).trans ((hF5 k (by omega)).trans (hFc k (by omega)))))) (by rw [hs]; exact (if_pos (decide_eq_true ⟨c_87, c_110⟩)).symm) hP hS (lv_sub hl [2, 3, 4, 5, 6, 7, 1, 0] rfl) (by omega)
                      exact cut_59 (_ + 1) 0 1 Gc _ _ _ (by first | assumption | omega) (by exact fun k hk => hFc k (by omega)) (by rfl) hP hS (lv_sub hl [2, 3, 4, 5, 6, 7, 1, 0] rfl) (Nat.lt_succ_self _)
                exact cut_47 (_ + 1) 0 Gc _ _ _ (by first | assumption | omega) (by exact fun k hk => hFc k (by omega)) (by exact hfx) hP hS (lv_sub hl [1, 2, 3, 4, 5, 0] rfl) (Nat.lt_succ_self _)
          exact cut_38 (_ + 1) 0 G _ _ _ (by first | assumption | omega) (by exact fun k hk => rfl) (by rfl) hP hS (lv_sub hl [1, 2, 3, 4, 0] rfl) (Nat.lt_succ_self _)
        · skip
          have hz_is := zin_f (by omega) hno4
          refine lv_if_ne (tgt := 35) hx hb dX12_two_26 (by decide) (fun h_ => absurd (by decide) h_) (fun _ => ?_)
          refine lv_aload_n hx hb dX12_two_29 rfl (lv_at hl 0 rfl) ?_
          refine lv_iconst (v := (-1 : Int32)) hx hb dX12_two_30 (by decide) ?_
          refine z_Vi C0 hP hD hA hS (As := [.int (-1 : Int32)]) (rest := []) (k := 92) (c_X12_no l E _ (-1 : Int32) 1 (by decide) (by decide)) (cwV 1 hts (zgV zbw mlRX12_56 imX12_no seX12_no iniRX12 coX12_no) rfl rfl rfl (by decide +kernel) ⟨Nat.le_of_ble_eq_true rfl, Nat.le_of_ble_eq_true rfl⟩) (zk_lt (rfl : zk 92 = 10) (by decide)) (zd_10 E (rfl : zk 92 = 10) _) rfl rfl rfl hl.1 rfl (Nat.le_of_ble_eq_true rfl) dX12_two_31 ⟨Nat.zero_le _, Nat.zero_le _⟩ (fun r9 G9 H locs hw9 hP hS => ?_)
          obtain ⟨rfl, rfl⟩ := hw9
          subst hQ_
          exact z_iret C0 hP hS (v := (-1 : Int32)) (by exact zQm_of (k := 1) (by simp [A_two, hz_io, hy_io, hz_ip, hy_ip, c_18, hne_, hz_is]) (fun k hk => g1_n (by omega)) (g1_s _ _ _)) dX12_two_34
    · skip
      have hz_ip := zin_f (by omega) hno2
      refine lv_if_eq (tgt := 29) hx hb dX12_two_13 (by decide) (fun _ => ?_) (fun h_ => absurd (by decide) h_)
      refine lv_aload_n hx hb dX12_two_29 rfl (lv_at hl 0 rfl) ?_
      refine lv_iconst (v := (-1 : Int32)) hx hb dX12_two_30 (by decide) ?_
      refine z_Vi C0 hP hD hA hS (As := [.int (-1 : Int32)]) (rest := []) (k := 92) (c_X12_no l E _ (-1 : Int32) 1 (by decide) (by decide)) (cwV 1 hts (zgV zbw mlRX12_56 imX12_no seX12_no iniRX12 coX12_no) rfl rfl rfl (by decide +kernel) ⟨Nat.le_of_ble_eq_true rfl, Nat.le_of_ble_eq_true rfl⟩) (zk_lt (rfl : zk 92 = 10) (by decide)) (zd_10 E (rfl : zk 92 = 10) _) rfl rfl rfl hl.1 rfl (Nat.le_of_ble_eq_true rfl) dX12_two_31 ⟨Nat.zero_le _, Nat.zero_le _⟩ (fun r10 G10 H locs hw10 hP hS => ?_)
      obtain ⟨rfl, rfl⟩ := hw10
      subst hQ_
      exact z_iret C0 hP hS (v := (-1 : Int32)) (by exact zQm_of (k := 1) (by simp [A_two, hz_io, hy_io, hz_ip]) (fun k hk => g1_n (by omega)) (g1_s _ _ _)) dX12_two_34
  · skip
    have hz_io := zin_f (by omega) hno1
    refine lv_if_eq (tgt := 29) hx hb dX12_two_5 (by decide) (fun _ => ?_) (fun h_ => absurd (by decide) h_)
    refine lv_aload_n hx hb dX12_two_29 rfl (lv_at hl 0 rfl) ?_
    refine lv_iconst (v := (-1 : Int32)) hx hb dX12_two_30 (by decide) ?_
    refine z_Vi C0 hP hD hA hS (As := [.int (-1 : Int32)]) (rest := []) (k := 92) (c_X12_no l E _ (-1 : Int32) 1 (by decide) (by decide)) (cwV 1 hts (zgV zbw mlRX12_56 imX12_no seX12_no iniRX12 coX12_no) rfl rfl rfl (by decide +kernel) ⟨Nat.le_of_ble_eq_true rfl, Nat.le_of_ble_eq_true rfl⟩) (zk_lt (rfl : zk 92 = 10) (by decide)) (zd_10 E (rfl : zk 92 = 10) _) rfl rfl rfl hl.1 rfl (Nat.le_of_ble_eq_true rfl) dX12_two_31 ⟨Nat.zero_le _, Nat.zero_le _⟩ (fun r11 G11 H locs hw11 hP hS => ?_)
    obtain ⟨rfl, rfl⟩ := hw11
    subst hQ_
    exact z_iret C0 hP hS (v := (-1 : Int32)) (by exact zQm_of (k := 1) (by simp [A_two, hz_io]) (fun k hk => g1_n (by omega)) (g1_s _ _ _)) dX12_two_34
