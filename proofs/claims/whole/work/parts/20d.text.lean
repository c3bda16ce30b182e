/-! laid by wip/whole/vcg.py -/
theorem flRX9_9 : Cond.fieldLink RX9 9 "WetSuitPedalsShoes$Text" "many" "I" ∈ zU := zU_m 151 (by decide +kernel) rfl
set_option maxHeartbeats 4000000 in
set_option maxRecDepth 100000 in
theorem c_X9_isFull (l : Launch) (E : zE) (G : zG) (L : Nat → Int32) (K : Nat) (hL : G 44 = L) (hK : G 43 0 = nI K) (hK96 : K ≤ 96)  : zMi l yX9_isFull wsX9_isFull ({ frames := 0, cells := 0, slots := 0, locals := 0 } : Room) E G [.ref (E.1 43)] (fun r1 G1 => (1 = r1 ∧ G = G1 ∧ 96 ≤ K) ∨ (0 = r1 ∧ G = G1 ∧ K < 96)) := by
  refine zOf (cc := cX9_isFull) (nL := 1) (ret := (some .boolean)) RX9 (by decide) rfl rfl (Nat.le_of_ble_eq_true rfl) ?_
  intro p_ e_ s_ m_ a_ b_ me_ c_ ls C0 hP hS hl
  have hx := C0.1
  have hb := C0.2.1
  have hts := C0.2.2.2.2.1
  have hD : zD E (zA E s_.heap.size) := C0.2.2.2.2.2.2.2.2
  have hA : ∀ q : Nat, s_.heap.size ≤ q → zA E s_.heap.size q := fun q h => Or.inr h
  refine z_gen (fun Q_ hQ_ => ?_)
  have hl : lv_has ls 1 [(0, .ref (E.1 43))] := hl
  refine lv_aload_n hx hb dX9_isFull_0 rfl (lv_at hl 0 rfl) ?_
  refine z_get C0 hP (C := RX9) (T := TX9) (N := 2) (ci := 7) (index := 9) (k := 43) (ref := "WetSuitPedalsShoes$Text") (zk_lt (rfl : zk 43 = 7) (by decide)) (zd_7 E (rfl : zk 43 = 7) _) rfl (zmi inU_9) 0 (by decide) (zm flRX9_9) rfl (v := .int (nI K)) (congrArg (fun z => some (Value.int z)) (hK)) dX9_isFull_1 ?_
  refine lv_bipush (v := (96 : Int32)) hx hb dX9_isFull_4 (by decide) ?_
  refine z_N_lt hx hb (a := K) (b := 96) (tgt := 13) dX9_isFull_6 rfl rfl (by omega) (by omega) (by decide) (fun c_6 => ?_) (fun c_6 => ?_)
  · skip
    refine lv_iconst (v := (0 : Int32)) hx hb dX9_isFull_13 (by decide) ?_
    subst hQ_
    exact z_zret C0 hP hS (v := (0 : Int32)) (by decide) (by exact Or.inr ⟨rfl, rfl, by omega⟩) dX9_isFull_14
  · skip
    refine lv_iconst (v := (1 : Int32)) hx hb dX9_isFull_9 (by decide) ?_
    refine lv_goto (tgt := 14) hx hb dX9_isFull_10 (by decide) ?_
    subst hQ_
    exact z_zret C0 hP hS (v := (1 : Int32)) (by decide) (by exact Or.inl ⟨rfl, rfl, by omega⟩) dX9_isFull_14
theorem flRX9_15 : Cond.fieldLink RX9 15 "WetSuitPedalsShoes$Text" "letters" "[I" ∈ zU := zU_m 153 (by decide +kernel) rfl
set_option maxHeartbeats 4000000 in
set_option maxRecDepth 100000 in
theorem c_X9_put (l : Launch) (E : zE) (G : zG) (L : Nat → Int32) (K : Nat) (hL : G 44 = L) (hK : G 43 0 = nI K) (hK96 : K ≤ 96) (v : Int32) (hK1 : K < 96) : zMi l yX9_put wsX9_put ({ frames := 0, cells := 0, slots := 0, locals := 0 } : Room) E G [.ref (E.1 43), .int v] (fun r1 G1 => nI (K + 1) = r1 ∧ (∀ k, (k < 43 ∨ 44 < k) → G1 k = G k) ∧ G1 43 = upd (G 43) 0 (nI (K + 1)) ∧ G1 44 = upd L K v) := by
  refine zOf (cc := cX9_put) (nL := 2) (ret := (some .int)) RX9 (by decide) rfl rfl (Nat.le_of_ble_eq_true rfl) ?_
  intro p_ e_ s_ m_ a_ b_ me_ c_ ls C0 hP hS hl
  have hx := C0.1
  have hb := C0.2.1
  have hts := C0.2.2.2.2.1
  have hD : zD E (zA E s_.heap.size) := C0.2.2.2.2.2.2.2.2
  have hA : ∀ q : Nat, s_.heap.size ≤ q → zA E s_.heap.size q := fun q h => Or.inr h
  refine z_gen (fun Q_ hQ_ => ?_)
  have hl : lv_has ls 2 [(0, .ref (E.1 43)), (1, .int v)] := hl
  refine lv_aload_n hx hb dX9_put_0 rfl (lv_at hl 0 rfl) ?_
  refine z_get C0 hP (C := RX9) (T := TX9) (N := 2) (ci := 7) (index := 9) (k := 43) (ref := "WetSuitPedalsShoes$Text") (zk_lt (rfl : zk 43 = 7) (by decide)) (zd_7 E (rfl : zk 43 = 7) _) rfl (zmi inU_9) 0 (by decide) (zm flRX9_9) rfl (v := .int (nI K)) (congrArg (fun z => some (Value.int z)) (hK)) dX9_put_1 ?_
  refine lv_bipush (v := (96 : Int32)) hx hb dX9_put_4 (by decide) ?_
  refine z_N_ge hx hb (a := K) (b := 96) (tgt := 29) dX9_put_6 rfl rfl (by omega) (by omega) (by decide) (fun c_6 => ?_) (fun c_6 => ?_)
  · exact absurd c_6 (by omega)
  · skip
    refine lv_aload_n hx hb dX9_put_9 rfl (lv_at hl 0 rfl) ?_
    refine z_get C0 hP (C := RX9) (T := TX9) (N := 2) (ci := 7) (index := 15) (k := 43) (ref := "WetSuitPedalsShoes$Text") (zk_lt (rfl : zk 43 = 7) (by decide)) (zd_7 E (rfl : zk 43 = 7) _) rfl (zmi inU_9) 1 (by decide) (zm flRX9_15) rfl (v := .ref (E.1 44)) (rfl) dX9_put_10 ?_
    refine lv_aload_n hx hb dX9_put_13 rfl (lv_at hl 0 rfl) ?_
    refine z_get C0 hP (C := RX9) (T := TX9) (N := 2) (ci := 7) (index := 9) (k := 43) (ref := "WetSuitPedalsShoes$Text") (zk_lt (rfl : zk 43 = 7) (by decide)) (zd_7 E (rfl : zk 43 = 7) _) rfl (zmi inU_9) 0 (by decide) (zm flRX9_9) rfl (v := .int (nI K)) (congrArg (fun z => some (Value.int z)) (hK)) dX9_put_14 ?_
    refine lv_iload_n hx hb dX9_put_17 rfl (lv_at hl 1 rfl) ?_
    refine z_iast C0 hP hD hS (k := 44) (i := K) (v := v) (F := L) (hL) (rfl : zk 44 = 11) (Nat.lt_of_lt_of_eq (show K < 96 by omega) (rfl : zl 44 = 96).symm) rfl dX9_put_18 (fun H locs hP hS => ?_)
    refine lv_aload_n hx hb dX9_put_19 rfl (lv_at hl 0 rfl) ?_
    refine lv_dup hx hb dX9_put_20 rfl ?_
    refine z_get C0 hP (C := RX9) (T := TX9) (N := 2) (ci := 7) (index := 9) (k := 43) (ref := "WetSuitPedalsShoes$Text") (zk_lt (rfl : zk 43 = 7) (by decide)) (zd_7 E (rfl : zk 43 = 7) _) rfl (zmi inU_9) 0 (by decide) (zm flRX9_9) rfl (v := .int (nI K)) (congrArg (fun z => some (Value.int z)) ((congrFun (g1_n (by decide)) _).trans (hK))) dX9_put_21 ?_
    refine lv_iconst (v := (1 : Int32)) hx hb dX9_put_24 (by decide) ?_
    refine z_iadd hx hb (a := K) (b := 1) (n := K + 1) dX9_put_25 rfl rfl rfl ?_
    refine z_put C0 hP hD hS (C := RX9) (T := TX9) (N := 2) (ci := 7) (index := 9) (k := 43) (ref := "WetSuitPedalsShoes$Text") (F := G 43) (ty := .int) (g1_n (by decide)) tyX9 tyX9_ok nmX9 (zk_lt (rfl : zk 43 = 7) (by decide)) (zd_7 E (rfl : zk 43 = 7) _) rfl (zmi inU_9) 0 (by decide) (zm flRX9_9) rfl rfl (by decide +kernel) (by rfl) rfl (by show 0 < 2; decide) (upd (G 43) 0 (nI (K + 1))) ((zd_7 E (rfl : zk 43 = 7) _).trans (rfl)) dX9_put_26 (fun H locs hP hS => ?_)
    refine lv_aload_n hx hb dX9_put_29 rfl (lv_at hl 0 rfl) ?_
    refine z_get C0 hP (C := RX9) (T := TX9) (N := 2) (ci := 7) (index := 9) (k := 43) (ref := "WetSuitPedalsShoes$Text") (zk_lt (rfl : zk 43 = 7) (by decide)) (zd_7 E (rfl : zk 43 = 7) _) rfl (zmi inU_9) 0 (by decide) (zm flRX9_9) rfl (v := .int (nI (K + 1))) (congrArg (fun z => some (Value.int z)) ((congrFun (g1_s _ _ _) _).trans (pk_us))) dX9_put_30 ?_
    subst hQ_
    exact z_iret C0 hP hS (v := (nI (K + 1))) (by exact ⟨rfl, (fun k hk => (g1_n (by omega)).trans (g1_n (by omega))), g1_s _ _ _, (g1_n (by decide)).trans (g1_s _ _ _)⟩) dX9_put_33
set_option maxHeartbeats 4000000 in
set_option maxRecDepth 100000 in
theorem c_X9_forget (l : Launch) (E : zE) (G : zG)  : zMv l yX9_forget wsX9_forget ({ frames := 0, cells := 0, slots := 0, locals := 0 } : Room) E G [.ref (E.1 43)] (fun G1 => (∀ k, (k < 43 ∨ 43 < k) → G1 k = G k) ∧ G1 43 = upd (G 43) 0 0) := by
  refine zOf (cc := cX9_forget) (nL := 1) (ret := none) RX9 (by decide) rfl rfl (Nat.le_of_ble_eq_true rfl) ?_
  intro p_ e_ s_ m_ a_ b_ me_ c_ ls C0 hP hS hl
  have hx := C0.1
  have hb := C0.2.1
  have hts := C0.2.2.2.2.1
  have hD : zD E (zA E s_.heap.size) := C0.2.2.2.2.2.2.2.2
  have hA : ∀ q : Nat, s_.heap.size ≤ q → zA E s_.heap.size q := fun q h => Or.inr h
  refine z_gen (fun Q_ hQ_ => ?_)
  have hl : lv_has ls 1 [(0, .ref (E.1 43))] := hl
  refine lv_aload_n hx hb dX9_forget_0 rfl (lv_at hl 0 rfl) ?_
  refine lv_iconst (v := (0 : Int32)) hx hb dX9_forget_1 (by decide) ?_
  refine z_put C0 hP hD hS (C := RX9) (T := TX9) (N := 2) (ci := 7) (index := 9) (k := 43) (ref := "WetSuitPedalsShoes$Text") (F := G 43) (ty := .int) (rfl) tyX9 tyX9_ok nmX9 (zk_lt (rfl : zk 43 = 7) (by decide)) (zd_7 E (rfl : zk 43 = 7) _) rfl (zmi inU_9) 0 (by decide) (zm flRX9_9) rfl rfl (by decide +kernel) (by rfl) rfl (by show 0 < 2; decide) (upd (G 43) 0 (0 : Int32)) ((zd_7 E (rfl : zk 43 = 7) _).trans (rfl)) dX9_forget_2 (fun H locs hP hS => ?_)
  subst hQ_
  exact z_vret C0 hP hS (by exact ⟨(fun k hk => g1_n (by omega)), g1_s _ _ _⟩) dX9_forget_5
set_option maxHeartbeats 4000000 in
set_option maxRecDepth 100000 in
theorem c_X9_leastInside (l : Launch) (E : zE) (G : zG) (ch : Int32) : zMi l yX9_leastInside wsX9_leastInside ({ frames := 0, cells := 0, slots := 0, locals := 0 } : Room) E G [.int ch] (fun r1 G1 => nI (c_least ch) = r1 ∧ G = G1) := by
  refine zOf (cc := cX9_leastInside) (nL := 1) (ret := (some .int)) RX9 (by decide) rfl rfl (Nat.le_of_ble_eq_true rfl) ?_
  intro p_ e_ s_ m_ a_ b_ me_ c_ ls C0 hP hS hl
  have hx := C0.1
  have hb := C0.2.1
  have hts := C0.2.2.2.2.1
  have hD : zD E (zA E s_.heap.size) := C0.2.2.2.2.2.2.2.2
  have hA : ∀ q : Nat, s_.heap.size ≤ q → zA E s_.heap.size q := fun q h => Or.inr h
  refine z_gen (fun Q_ hQ_ => ?_)
  have hl : lv_has ls 1 [(0, .int ch)] := hl
  refine lv_iload_n hx hb dX9_leastInside_0 rfl (lv_at hl 0 rfl) ?_
  by_cases e97_1 : ch = (97 : Int32)
  · skip
    refine lv_lookup (tgt := 54) (off := 53) hx hb dX9_leastInside_1 (by decide) (by rw [e97_1]; rfl) (by decide) ?_
    refine lv_iconst (v := (5 : Int32)) hx hb dX9_leastInside_54 (by decide) ?_
    subst hQ_
    exact z_iret C0 hP hS (v := (5 : Int32)) (by exact ⟨congrArg nI (show c_least ch = 5 by simp [c_least, e97_1]), rfl⟩) dX9_leastInside_55
  · skip
    by_cases e112_1 : ch = (112 : Int32)
    · skip
      refine lv_lookup (tgt := 56) (off := 55) hx hb dX9_leastInside_1 (by decide) (by rw [e112_1]; rfl) (by decide) ?_
      refine lv_iconst (v := (2 : Int32)) hx hb dX9_leastInside_56 (by decide) ?_
      subst hQ_
      exact z_iret C0 hP hS (v := (2 : Int32)) (by exact ⟨congrArg nI (show c_least ch = 2 by simp [c_least, e97_1, e112_1]), rfl⟩) dX9_leastInside_57
    · skip
      by_cases e115_1 : ch = (115 : Int32)
      · skip
        refine lv_lookup (tgt := 52) (off := 51) hx hb dX9_leastInside_1 (by decide) (by rw [e115_1]; rfl) (by decide) ?_
        refine lv_iconst (v := (3 : Int32)) hx hb dX9_leastInside_52 (by decide) ?_
        subst hQ_
        exact z_iret C0 hP hS (v := (3 : Int32)) (by exact ⟨congrArg nI (show c_least ch = 3 by simp [c_least, e97_1, e112_1, e115_1]), rfl⟩) dX9_leastInside_53
      · skip
        by_cases e116_1 : ch = (116 : Int32)
        · skip
          refine lv_lookup (tgt := 52) (off := 51) hx hb dX9_leastInside_1 (by decide) (by rw [e116_1]; rfl) (by decide) ?_
          refine lv_iconst (v := (3 : Int32)) hx hb dX9_leastInside_52 (by decide) ?_
          subst hQ_
          exact z_iret C0 hP hS (v := (3 : Int32)) (by exact ⟨congrArg nI (show c_least ch = 3 by simp [c_least, e97_1, e112_1, e115_1, e116_1]), rfl⟩) dX9_leastInside_53
        · skip
          by_cases e120_1 : ch = (120 : Int32)
          · skip
            refine lv_lookup (tgt := 56) (off := 55) hx hb dX9_leastInside_1 (by decide) (by rw [e120_1]; rfl) (by decide) ?_
            refine lv_iconst (v := (2 : Int32)) hx hb dX9_leastInside_56 (by decide) ?_
            subst hQ_
            exact z_iret C0 hP hS (v := (2 : Int32)) (by exact ⟨congrArg nI (show c_least ch = 2 by simp [c_least, e97_1, e112_1, e115_1, e116_1, e120_1]), rfl⟩) dX9_leastInside_57
          · skip
            refine lv_lookup (tgt := 58) (off := 57) hx hb dX9_leastInside_1 (by decide) ((lv_osw e97_1 rfl).trans ((lv_osw e112_1 rfl).trans ((lv_osw e115_1 rfl).trans ((lv_osw e116_1 rfl).trans ((lv_osw e120_1 rfl).trans (rfl)))))) (by decide) ?_
            refine lv_iconst (v := (0 : Int32)) hx hb dX9_leastInside_58 (by decide) ?_
            subst hQ_
            exact z_iret C0 hP hS (v := (0 : Int32)) (by exact ⟨congrArg nI (show c_least ch = 0 by simp [c_least, e97_1, e112_1, e115_1, e116_1, e120_1]), rfl⟩) dX9_leastInside_59
theorem mlRX9_27 : Cond.methodLink RX9 27 yX9_leastInside ∈ zU := zU_m 334 (by decide +kernel) rfl
theorem coX9_leastInside : Cond.code yX9_leastInside cX9_leastInside 1 (some .int) ∈ zU := zU_m 336 (by decide +kernel) rfl
theorem stX9_leastInside : Cond.static yX9_leastInside ∈ zU := zU_m 335 (by decide +kernel) rfl
theorem iniRX9 : Cond.initialized RX9 ∈ zU := zU_m 52 (by decide +kernel) rfl
set_option maxHeartbeats 4000000 in
set_option maxRecDepth 100000 in
theorem c_X9_mostInside (l : Launch) (E : zE) (G : zG) (ch : Int32) : zMi l yX9_mostInside wsX9_mostInside ({ frames := 1, cells := 0, slots := 0, locals := 20 } : Room) E G [.int ch] (fun r1 G1 => nI (c_most ch) = r1 ∧ G = G1) := by
  refine zOf (cc := cX9_mostInside) (nL := 1) (ret := (some .int)) RX9 (by decide) rfl rfl (Nat.le_of_ble_eq_true rfl) ?_
  intro p_ e_ s_ m_ a_ b_ me_ c_ ls C0 hP hS hl
  have hx := C0.1
  have hb := C0.2.1
  have hts := C0.2.2.2.2.1
  have hD : zD E (zA E s_.heap.size) := C0.2.2.2.2.2.2.2.2
  have hA : ∀ q : Nat, s_.heap.size ≤ q → zA E s_.heap.size q := fun q h => Or.inr h
  refine z_gen (fun Q_ hQ_ => ?_)
  have hl : lv_has ls 1 [(0, .int ch)] := hl
  refine lv_iload_n hx hb dX9_mostInside_0 rfl (lv_at hl 0 rfl) ?_
  refine lv_bipush (v := (112 : Int32)) hx hb dX9_mostInside_1 (by decide) ?_
  refine lv_icmp_ne (tgt := 11) hx hb dX9_mostInside_3 (by decide) (fun c_3 => ?_) (fun c_3 => ?_)
  · skip
    refine lv_iload_n hx hb dX9_mostInside_11 rfl (lv_at hl 0 rfl) ?_
    refine z_Si C0 hP hD hA hS (As := [.int ch]) (rest := []) (c_X9_leastInside l E _ ch) (va_cwS 1 hts (zgS zbw mlRX9_27 stX9_leastInside iniRX9 coX9_leastInside) rfl rfl rfl (by decide +kernel) ⟨Nat.le_of_ble_eq_true rfl, Nat.le_of_ble_eq_true rfl⟩) rfl hl.1 rfl (Nat.le_of_ble_eq_true rfl) dX9_mostInside_12 ⟨Nat.zero_le _, Nat.zero_le _⟩ (fun r1 G1 H locs hw1 hP hS => ?_)
    obtain ⟨hr1, rfl⟩ := hw1
    subst hr1
    subst hQ_
    exact z_iret C0 hP hS (v := (nI (c_least ch))) (by exact ⟨congrArg nI (show c_most ch = c_least ch by simp [c_most, c_3]), rfl⟩) dX9_mostInside_15
  · skip
    refine lv_bipush (v := (10 : Int32)) hx hb dX9_mostInside_6 (by decide) ?_
    refine lv_goto (tgt := 15) hx hb dX9_mostInside_8 (by decide) ?_
    subst hQ_
    exact z_iret C0 hP hS (v := (10 : Int32)) (by exact ⟨congrArg nI (show c_most ch = 10 by simp [c_most, c_3]), rfl⟩) dX9_mostInside_15
set_option maxHeartbeats 4000000 in
set_option maxRecDepth 100000 in
theorem c_X4_ofLetter (l : Launch) (E : zE) (G : zG) (ch : Int32) : zMi l yX4_ofLetter wsX4_ofLetter ({ frames := 0, cells := 0, slots := 0, locals := 0 } : Room) E G [.int ch] (fun r G1 => c_kind ch = r ∧ G = G1) := by
  refine zOf (cc := cX4_ofLetter) (nL := 1) (ret := (some .int)) RX4 (by decide) rfl rfl (Nat.le_of_ble_eq_true rfl) ?_
  intro p_ e_ s_ m_ a_ b_ me_ c_ ls C0 hP hS hl
  have hx := C0.1
  have hb := C0.2.1
  have hts := C0.2.2.2.2.1
  have hD : zD E (zA E s_.heap.size) := C0.2.2.2.2.2.2.2.2
  have hA : ∀ q : Nat, s_.heap.size ≤ q → zA E s_.heap.size q := fun q h => Or.inr h
  refine z_gen (fun Q_ hQ_ => ?_)
  have hl : lv_has ls 1 [(0, .int ch)] := hl
  refine lv_iload_n hx hb dX4_ofLetter_0 rfl (lv_at hl 0 rfl) ?_
  rcases z_sw (ch) 99 21 with hsw | ⟨k_, hk_, hsw⟩
  · skip
    refine lv_tableOut (tgt := 115) hx hb dX4_ofLetter_1 (z_swo hsw rfl rfl) (by decide) ?_
    have hsn_1_0 : ¬ ch = (99 : Int32) := fun q => by rw [q] at hsw; revert hsw; decide
    have hsn_1_1 : ¬ ch = (100 : Int32) := fun q => by rw [q] at hsw; revert hsw; decide
    have hsn_1_2 : ¬ ch = (101 : Int32) := fun q => by rw [q] at hsw; revert hsw; decide
    have hsn_1_3 : ¬ ch = (102 : Int32) := fun q => by rw [q] at hsw; revert hsw; decide
    have hsn_1_4 : ¬ ch = (103 : Int32) := fun q => by rw [q] at hsw; revert hsw; decide
    have hsn_1_5 : ¬ ch = (104 : Int32) := fun q => by rw [q] at hsw; revert hsw; decide
    have hsn_1_6 : ¬ ch = (105 : Int32) := fun q => by rw [q] at hsw; revert hsw; decide
    have hsn_1_7 : ¬ ch = (106 : Int32) := fun q => by rw [q] at hsw; revert hsw; decide
    have hsn_1_8 : ¬ ch = (107 : Int32) := fun q => by rw [q] at hsw; revert hsw; decide
    have hsn_1_9 : ¬ ch = (108 : Int32) := fun q => by rw [q] at hsw; revert hsw; decide
    have hsn_1_10 : ¬ ch = (109 : Int32) := fun q => by rw [q] at hsw; revert hsw; decide
    have hsn_1_11 : ¬ ch = (110 : Int32) := fun q => by rw [q] at hsw; revert hsw; decide
    have hsn_1_12 : ¬ ch = (111 : Int32) := fun q => by rw [q] at hsw; revert hsw; decide
    have hsn_1_13 : ¬ ch = (112 : Int32) := fun q => by rw [q] at hsw; revert hsw; decide
    have hsn_1_14 : ¬ ch = (113 : Int32) := fun q => by rw [q] at hsw; revert hsw; decide
    have hsn_1_15 : ¬ ch = (114 : Int32) := fun q => by rw [q] at hsw; revert hsw; decide
    have hsn_1_16 : ¬ ch = (115 : Int32) := fun q => by rw [q] at hsw; revert hsw; decide
    have hsn_1_17 : ¬ ch = (116 : Int32) := fun q => by rw [q] at hsw; revert hsw; decide
    have hsn_1_18 : ¬ ch = (117 : Int32) := fun q => by rw [q] at hsw; revert hsw; decide
    have hsn_1_19 : ¬ ch = (118 : Int32) := fun q => by rw [q] at hsw; revert hsw; decide
    have hsn_1_20 : ¬ ch = (119 : Int32) := fun q => by rw [q] at hsw; revert hsw; decide
    refine lv_bipush (v := (-9 : Int32)) hx hb dX4_ofLetter_115 (by decide) ?_
    subst hQ_
    exact z_iret C0 hP hS (v := (-9 : Int32)) (by refine ⟨?_, rfl⟩; simp [c_kind, hsn_1_0, hsn_1_1, hsn_1_2, hsn_1_3, hsn_1_4, hsn_1_5, hsn_1_6, hsn_1_7, hsn_1_8, hsn_1_9, hsn_1_10, hsn_1_11, hsn_1_12, hsn_1_13, hsn_1_14, hsn_1_15, hsn_1_16, hsn_1_17, hsn_1_18, hsn_1_19, hsn_1_20]) dX4_ofLetter_117
  · skip
    rcases (show k_ = 0 ∨ k_ = 1 ∨ k_ = 2 ∨ k_ = 3 ∨ k_ = 4 ∨ k_ = 5 ∨ k_ = 6 ∨ k_ = 7 ∨ k_ = 8 ∨ k_ = 9 ∨ k_ = 10 ∨ k_ = 11 ∨ k_ = 12 ∨ k_ = 13 ∨ k_ = 14 ∨ k_ = 15 ∨ k_ = 16 ∨ k_ = 17 ∨ k_ = 18 ∨ k_ = 19 ∨ k_ = 20 by omega) with rfl | rfl | rfl | rfl | rfl | rfl | rfl | rfl | rfl | rfl | rfl | rfl | rfl | rfl | rfl | rfl | rfl | rfl | rfl | rfl | rfl
    · skip
      have hsw_1 : ch = (99 : Int32) := z_swi hsw (by decide)
      refine lv_tableIn (tgt := 112) (off := 111) hx hb dX4_ofLetter_1 (by rw [hsw_1]; decide) (by rw [hsw_1]; decide) (by rw [hsw_1]; rfl) (by decide) ?_
      refine lv_bipush (v := (6 : Int32)) hx hb dX4_ofLetter_112 (by decide) ?_
      subst hQ_
      exact z_iret C0 hP hS (v := (6 : Int32)) (by refine ⟨?_, rfl⟩; simp [c_kind, hsw_1]) dX4_ofLetter_114
    · skip
      have hsw_1 : ch = (100 : Int32) := z_swi hsw (by decide)
      refine lv_tableIn (tgt := 102) (off := 101) hx hb dX4_ofLetter_1 (by rw [hsw_1]; decide) (by rw [hsw_1]; decide) (by rw [hsw_1]; rfl) (by decide) ?_
      refine lv_iconst (v := (1 : Int32)) hx hb dX4_ofLetter_102 (by decide) ?_
      subst hQ_
      exact z_iret C0 hP hS (v := (1 : Int32)) (by refine ⟨?_, rfl⟩; simp [c_kind, hsw_1]) dX4_ofLetter_103
    · skip
      have hsw_1 : ch = (101 : Int32) := z_swi hsw (by decide)
      refine lv_tableIn (tgt := 115) (off := 114) hx hb dX4_ofLetter_1 (by rw [hsw_1]; decide) (by rw [hsw_1]; decide) (by rw [hsw_1]; rfl) (by decide) ?_
      refine lv_bipush (v := (-9 : Int32)) hx hb dX4_ofLetter_115 (by decide) ?_
      subst hQ_
      exact z_iret C0 hP hS (v := (-9 : Int32)) (by refine ⟨?_, rfl⟩; simp [c_kind, hsw_1]) dX4_ofLetter_117
    · skip
      have hsw_1 : ch = (102 : Int32) := z_swi hsw (by decide)
      refine lv_tableIn (tgt := 110) (off := 109) hx hb dX4_ofLetter_1 (by rw [hsw_1]; decide) (by rw [hsw_1]; decide) (by rw [hsw_1]; rfl) (by decide) ?_
      refine lv_iconst (v := (5 : Int32)) hx hb dX4_ofLetter_110 (by decide) ?_
      subst hQ_
      exact z_iret C0 hP hS (v := (5 : Int32)) (by refine ⟨?_, rfl⟩; simp [c_kind, hsw_1]) dX4_ofLetter_111
    · skip
      have hsw_1 : ch = (103 : Int32) := z_swi hsw (by decide)
      refine lv_tableIn (tgt := 115) (off := 114) hx hb dX4_ofLetter_1 (by rw [hsw_1]; decide) (by rw [hsw_1]; decide) (by rw [hsw_1]; rfl) (by decide) ?_
      refine lv_bipush (v := (-9 : Int32)) hx hb dX4_ofLetter_115 (by decide) ?_
      subst hQ_
      exact z_iret C0 hP hS (v := (-9 : Int32)) (by refine ⟨?_, rfl⟩; simp [c_kind, hsw_1]) dX4_ofLetter_117
    · skip
      have hsw_1 : ch = (104 : Int32) := z_swi hsw (by decide)
      refine lv_tableIn (tgt := 106) (off := 105) hx hb dX4_ofLetter_1 (by rw [hsw_1]; decide) (by rw [hsw_1]; decide) (by rw [hsw_1]; rfl) (by decide) ?_
      refine lv_iconst (v := (3 : Int32)) hx hb dX4_ofLetter_106 (by decide) ?_
      subst hQ_
      exact z_iret C0 hP hS (v := (3 : Int32)) (by refine ⟨?_, rfl⟩; simp [c_kind, hsw_1]) dX4_ofLetter_107
    · skip
      have hsw_1 : ch = (105 : Int32) := z_swi hsw (by decide)
      refine lv_tableIn (tgt := 115) (off := 114) hx hb dX4_ofLetter_1 (by rw [hsw_1]; decide) (by rw [hsw_1]; decide) (by rw [hsw_1]; rfl) (by decide) ?_
      refine lv_bipush (v := (-9 : Int32)) hx hb dX4_ofLetter_115 (by decide) ?_
      subst hQ_
      exact z_iret C0 hP hS (v := (-9 : Int32)) (by refine ⟨?_, rfl⟩; simp [c_kind, hsw_1]) dX4_ofLetter_117
    · skip
      have hsw_1 : ch = (106 : Int32) := z_swi hsw (by decide)
      refine lv_tableIn (tgt := 115) (off := 114) hx hb dX4_ofLetter_1 (by rw [hsw_1]; decide) (by rw [hsw_1]; decide) (by rw [hsw_1]; rfl) (by decide) ?_
      refine lv_bipush (v := (-9 : Int32)) hx hb dX4_ofLetter_115 (by decide) ?_
      subst hQ_
      exact z_iret C0 hP hS (v := (-9 : Int32)) (by refine ⟨?_, rfl⟩; simp [c_kind, hsw_1]) dX4_ofLetter_117
    · skip
      have hsw_1 : ch = (107 : Int32) := z_swi hsw (by decide)
      refine lv_tableIn (tgt := 115) (off := 114) hx hb dX4_ofLetter_1 (by rw [hsw_1]; decide) (by rw [hsw_1]; decide) (by rw [hsw_1]; rfl) (by decide) ?_
      refine lv_bipush (v := (-9 : Int32)) hx hb dX4_ofLetter_115 (by decide) ?_
      subst hQ_
      exact z_iret C0 hP hS (v := (-9 : Int32)) (by refine ⟨?_, rfl⟩; simp [c_kind, hsw_1]) dX4_ofLetter_117
    · skip
      have hsw_1 : ch = (108 : Int32) := z_swi hsw (by decide)
      refine lv_tableIn (tgt := 115) (off := 114) hx hb dX4_ofLetter_1 (by rw [hsw_1]; decide) (by rw [hsw_1]; decide) (by rw [hsw_1]; rfl) (by decide) ?_
      refine lv_bipush (v := (-9 : Int32)) hx hb dX4_ofLetter_115 (by decide) ?_
      subst hQ_
      exact z_iret C0 hP hS (v := (-9 : Int32)) (by refine ⟨?_, rfl⟩; simp [c_kind, hsw_1]) dX4_ofLetter_117
    · skip
      have hsw_1 : ch = (109 : Int32) := z_swi hsw (by decide)
      refine lv_tableIn (tgt := 115) (off := 114) hx hb dX4_ofLetter_1 (by rw [hsw_1]; decide) (by rw [hsw_1]; decide) (by rw [hsw_1]; rfl) (by decide) ?_
      refine lv_bipush (v := (-9 : Int32)) hx hb dX4_ofLetter_115 (by decide) ?_
      subst hQ_
      exact z_iret C0 hP hS (v := (-9 : Int32)) (by refine ⟨?_, rfl⟩; simp [c_kind, hsw_1]) dX4_ofLetter_117
    · skip
      have hsw_1 : ch = (110 : Int32) := z_swi hsw (by decide)
      refine lv_tableIn (tgt := 115) (off := 114) hx hb dX4_ofLetter_1 (by rw [hsw_1]; decide) (by rw [hsw_1]; decide) (by rw [hsw_1]; rfl) (by decide) ?_
      refine lv_bipush (v := (-9 : Int32)) hx hb dX4_ofLetter_115 (by decide) ?_
      subst hQ_
      exact z_iret C0 hP hS (v := (-9 : Int32)) (by refine ⟨?_, rfl⟩; simp [c_kind, hsw_1]) dX4_ofLetter_117
    · skip
      have hsw_1 : ch = (111 : Int32) := z_swi hsw (by decide)
      refine lv_tableIn (tgt := 115) (off := 114) hx hb dX4_ofLetter_1 (by rw [hsw_1]; decide) (by rw [hsw_1]; decide) (by rw [hsw_1]; rfl) (by decide) ?_
      refine lv_bipush (v := (-9 : Int32)) hx hb dX4_ofLetter_115 (by decide) ?_
      subst hQ_
      exact z_iret C0 hP hS (v := (-9 : Int32)) (by refine ⟨?_, rfl⟩; simp [c_kind, hsw_1]) dX4_ofLetter_117
    · skip
      have hsw_1 : ch = (112 : Int32) := z_swi hsw (by decide)
      refine lv_tableIn (tgt := 115) (off := 114) hx hb dX4_ofLetter_1 (by rw [hsw_1]; decide) (by rw [hsw_1]; decide) (by rw [hsw_1]; rfl) (by decide) ?_
      refine lv_bipush (v := (-9 : Int32)) hx hb dX4_ofLetter_115 (by decide) ?_
      subst hQ_
      exact z_iret C0 hP hS (v := (-9 : Int32)) (by refine ⟨?_, rfl⟩; simp [c_kind, hsw_1]) dX4_ofLetter_117
    · skip
      have hsw_1 : ch = (113 : Int32) := z_swi hsw (by decide)
      refine lv_tableIn (tgt := 115) (off := 114) hx hb dX4_ofLetter_1 (by rw [hsw_1]; decide) (by rw [hsw_1]; decide) (by rw [hsw_1]; rfl) (by decide) ?_
      refine lv_bipush (v := (-9 : Int32)) hx hb dX4_ofLetter_115 (by decide) ?_
      subst hQ_
      exact z_iret C0 hP hS (v := (-9 : Int32)) (by refine ⟨?_, rfl⟩; simp [c_kind, hsw_1]) dX4_ofLetter_117
    · skip
      have hsw_1 : ch = (114 : Int32) := z_swi hsw (by decide)
      refine lv_tableIn (tgt := 104) (off := 103) hx hb dX4_ofLetter_1 (by rw [hsw_1]; decide) (by rw [hsw_1]; decide) (by rw [hsw_1]; rfl) (by decide) ?_
      refine lv_iconst (v := (2 : Int32)) hx hb dX4_ofLetter_104 (by decide) ?_
      subst hQ_
      exact z_iret C0 hP hS (v := (2 : Int32)) (by refine ⟨?_, rfl⟩; simp [c_kind, hsw_1]) dX4_ofLetter_105
    · skip
      have hsw_1 : ch = (115 : Int32) := z_swi hsw (by decide)
      refine lv_tableIn (tgt := 100) (off := 99) hx hb dX4_ofLetter_1 (by rw [hsw_1]; decide) (by rw [hsw_1]; decide) (by rw [hsw_1]; rfl) (by decide) ?_
      refine lv_iconst (v := (0 : Int32)) hx hb dX4_ofLetter_100 (by decide) ?_
      subst hQ_
      exact z_iret C0 hP hS (v := (0 : Int32)) (by refine ⟨?_, rfl⟩; simp [c_kind, hsw_1]) dX4_ofLetter_101
    · skip
      have hsw_1 : ch = (116 : Int32) := z_swi hsw (by decide)
      refine lv_tableIn (tgt := 115) (off := 114) hx hb dX4_ofLetter_1 (by rw [hsw_1]; decide) (by rw [hsw_1]; decide) (by rw [hsw_1]; rfl) (by decide) ?_
      refine lv_bipush (v := (-9 : Int32)) hx hb dX4_ofLetter_115 (by decide) ?_
      subst hQ_
      exact z_iret C0 hP hS (v := (-9 : Int32)) (by refine ⟨?_, rfl⟩; simp [c_kind, hsw_1]) dX4_ofLetter_117
    · skip
      have hsw_1 : ch = (117 : Int32) := z_swi hsw (by decide)
      refine lv_tableIn (tgt := 115) (off := 114) hx hb dX4_ofLetter_1 (by rw [hsw_1]; decide) (by rw [hsw_1]; decide) (by rw [hsw_1]; rfl) (by decide) ?_
      refine lv_bipush (v := (-9 : Int32)) hx hb dX4_ofLetter_115 (by decide) ?_
      subst hQ_
      exact z_iret C0 hP hS (v := (-9 : Int32)) (by refine ⟨?_, rfl⟩; simp [c_kind, hsw_1]) dX4_ofLetter_117
    · skip
      have hsw_1 : ch = (118 : Int32) := z_swi hsw (by decide)
      refine lv_tableIn (tgt := 115) (off := 114) hx hb dX4_ofLetter_1 (by rw [hsw_1]; decide) (by rw [hsw_1]; decide) (by rw [hsw_1]; rfl) (by decide) ?_
      refine lv_bipush (v := (-9 : Int32)) hx hb dX4_ofLetter_115 (by decide) ?_
      subst hQ_
      exact z_iret C0 hP hS (v := (-9 : Int32)) (by refine ⟨?_, rfl⟩; simp [c_kind, hsw_1]) dX4_ofLetter_117
    · skip
      have hsw_1 : ch = (119 : Int32) := z_swi hsw (by decide)
      refine lv_tableIn (tgt := 108) (off := 107) hx hb dX4_ofLetter_1 (by rw [hsw_1]; decide) (by rw [hsw_1]; decide) (by rw [hsw_1]; rfl) (by decide) ?_
      refine lv_iconst (v := (4 : Int32)) hx hb dX4_ofLetter_108 (by decide) ?_
      subst hQ_
      exact z_iret C0 hP hS (v := (4 : Int32)) (by refine ⟨?_, rfl⟩; simp [c_kind, hsw_1]) dX4_ofLetter_109
theorem mlRX9_35 : Cond.methodLink RX9 35 yX9_mostInside ∈ zU := zU_m 340 (by decide +kernel) rfl
theorem coX9_mostInside : Cond.code yX9_mostInside cX9_mostInside 1 (some .int) ∈ zU := zU_m 342 (by decide +kernel) rfl
theorem stX9_mostInside : Cond.static yX9_mostInside ∈ zU := zU_m 341 (by decide +kernel) rfl
theorem mlRX9_38 : Cond.methodLink RX9 38 yX4_ofLetter ∈ zU := zU_m 343 (by decide +kernel) rfl
theorem coX4_ofLetter : Cond.code yX4_ofLetter cX4_ofLetter 1 (some .int) ∈ zU := zU_m 345 (by decide +kernel) rfl
theorem stX4_ofLetter : Cond.static yX4_ofLetter ∈ zU := zU_m 344 (by decide +kernel) rfl
set_option maxHeartbeats 4000000 in
set_option maxRecDepth 100000 in
theorem c_X9_fits (l : Launch) (E : zE) (G : zG) (hd : Int32) (i : Nat) (ch : Int32) (hi96 : i ≤ 96) : zMi l yX9_fits wsX9_fits ({ frames := 2, cells := 0, slots := 0, locals := 40 } : Room) E G [.int hd, .int (nI i), .int ch] (fun r1 G1 => (1 = r1 ∧ G = G1 ∧ c_fits hd i ch = true) ∨ (0 = r1 ∧ G = G1 ∧ ¬ c_fits hd i ch = true)) := by
  refine zOf (cc := cX9_fits) (nL := 3) (ret := (some .boolean)) RX9 (by decide) rfl rfl (Nat.le_of_ble_eq_true rfl) ?_
  intro p_ e_ s_ m_ a_ b_ me_ c_ ls C0 hP hS hl
  have hx := C0.1
  have hb := C0.2.1
  have hts := C0.2.2.2.2.1
  have hD : zD E (zA E s_.heap.size) := C0.2.2.2.2.2.2.2.2
  have hA : ∀ q : Nat, s_.heap.size ≤ q → zA E s_.heap.size q := fun q h => Or.inr h
  have b1 := c_least_le hd
  have b2 := c_most_le hd
  refine z_gen (fun Q_ hQ_ => ?_)
  have hl : lv_has ls 3 [(0, .int hd), (1, .int (nI i)), (2, .int ch)] := hl
  refine lv_iload_n hx hb dX9_fits_0 rfl (lv_at hl 2 rfl) ?_
  refine lv_bipush (v := (59 : Int32)) hx hb dX9_fits_1 (by decide) ?_
  refine lv_icmp_ne (tgt := 20) hx hb dX9_fits_3 (by decide) (fun c_3 => ?_) (fun c_3 => ?_)
  · skip
    refine lv_iload_n hx hb dX9_fits_20 rfl (lv_at hl 1 rfl) ?_
    refine lv_iload_n hx hb dX9_fits_21 rfl (lv_at hl 0 rfl) ?_
    refine z_Si C0 hP hD hA hS (As := [.int hd]) (rest := [.int (nI i)]) (c_X9_mostInside l E _ hd) (va_cwS 1 hts (zgS zbw mlRX9_35 stX9_mostInside iniRX9 coX9_mostInside) rfl rfl rfl (by decide +kernel) ⟨Nat.le_of_ble_eq_true rfl, Nat.le_of_ble_eq_true rfl⟩) rfl hl.1 rfl (Nat.le_of_ble_eq_true rfl) dX9_fits_22 ⟨Nat.zero_le _, Nat.zero_le _⟩ (fun r1 G1 H locs hw1 hP hS => ?_)
    obtain ⟨hr1, rfl⟩ := hw1
    subst hr1
    refine z_N_le hx hb (a := i) (b := c_most hd) (tgt := 30) dX9_fits_25 rfl rfl (by omega) (by omega) (by decide) (fun c_25 => ?_) (fun c_25 => ?_)
    · skip
      refine lv_iload_n hx hb dX9_fits_30 rfl (lv_at hl 0 rfl) ?_
      refine lv_bipush (v := (115 : Int32)) hx hb dX9_fits_31 (by decide) ?_
      refine lv_icmp_ne (tgt := 56) hx hb dX9_fits_33 (by decide) (fun c_33 => ?_) (fun c_33 => ?_)
      · skip
        refine lv_iload_n hx hb dX9_fits_56 rfl (lv_at hl 2 rfl) ?_
        refine lv_bipush (v := (48 : Int32)) hx hb dX9_fits_57 (by decide) ?_
        refine lv_icmp_lt (tgt := 72) hx hb dX9_fits_59 (by decide) (fun c_59 => ?_) (fun c_59 => ?_)
        · skip
          refine lv_iconst (v := (0 : Int32)) hx hb dX9_fits_72 (by decide) ?_
          subst hQ_
          exact z_zret C0 hP hS (v := (0 : Int32)) (by decide) (by exact Or.inr ⟨rfl, rfl, (by unfold c_fits; rw [if_neg c_3, if_neg (by omega), if_neg (fun q => by first | exact c_33 q.1 | exact absurd q.2 (by omega))]; exact fun q => by have q2 := of_decide_eq_true q; first | exact Int32.not_le.mpr c_59 q2.1 | exact Int32.not_le.mpr c_65 q2.2)⟩) dX9_fits_73
        · skip
          refine lv_iload_n hx hb dX9_fits_62 rfl (lv_at hl 2 rfl) ?_
          refine lv_bipush (v := (57 : Int32)) hx hb dX9_fits_63 (by decide) ?_
          refine lv_icmp_gt (tgt := 72) hx hb dX9_fits_65 (by decide) (fun c_65 => ?_) (fun c_65 => ?_)
          · skip
            refine lv_iconst (v := (0 : Int32)) hx hb dX9_fits_72 (by decide) ?_
            subst hQ_
            exact z_zret C0 hP hS (v := (0 : Int32)) (by decide) (by exact Or.inr ⟨rfl, rfl, (by unfold c_fits; rw [if_neg c_3, if_neg (by omega), if_neg (fun q => by first | exact c_33 q.1 | exact absurd q.2 (by omega))]; exact fun q => by have q2 := of_decide_eq_true q; first | exact Int32.not_le.mpr c_59 q2.1 | exact Int32.not_le.mpr c_65 q2.2)⟩) dX9_fits_73
          · skip
            refine lv_iconst (v := (1 : Int32)) hx hb dX9_fits_68 (by decide) ?_
            refine lv_goto (tgt := 73) hx hb dX9_fits_69 (by decide) ?_
            subst hQ_
            exact z_zret C0 hP hS (v := (1 : Int32)) (by decide) (by exact Or.inl ⟨rfl, rfl, (by unfold c_fits; rw [if_neg c_3, if_neg (by omega), if_neg (fun q => by first | exact c_33 q.1 | exact absurd q.2 (by omega))]; exact decide_eq_true ⟨Int32.not_lt.mp c_59, Int32.not_lt.mp c_65⟩)⟩) dX9_fits_73
      · skip
        refine lv_iload_n hx hb dX9_fits_36 rfl (lv_at hl 1 rfl) ?_
        refine lv_iconst (v := (1 : Int32)) hx hb dX9_fits_37 (by decide) ?_
        refine z_N_ne hx hb (a := i) (b := 1) (tgt := 56) dX9_fits_38 rfl rfl (by omega) (by omega) (by decide) (fun c_38 => ?_) (fun c_38 => ?_)
        · skip
          refine lv_iload_n hx hb dX9_fits_56 rfl (lv_at hl 2 rfl) ?_
          refine lv_bipush (v := (48 : Int32)) hx hb dX9_fits_57 (by decide) ?_
          refine lv_icmp_lt (tgt := 72) hx hb dX9_fits_59 (by decide) (fun c_59 => ?_) (fun c_59 => ?_)
          · skip
            refine lv_iconst (v := (0 : Int32)) hx hb dX9_fits_72 (by decide) ?_
            subst hQ_
            exact z_zret C0 hP hS (v := (0 : Int32)) (by decide) (by exact Or.inr ⟨rfl, rfl, (by unfold c_fits; rw [if_neg c_3, if_neg (by omega), if_neg (fun q => by first | exact c_33 q.1 | exact absurd q.2 (by omega))]; exact fun q => by have q2 := of_decide_eq_true q; first | exact Int32.not_le.mpr c_59 q2.1 | exact Int32.not_le.mpr c_65 q2.2)⟩) dX9_fits_73
          · skip
            refine lv_iload_n hx hb dX9_fits_62 rfl (lv_at hl 2 rfl) ?_
            refine lv_bipush (v := (57 : Int32)) hx hb dX9_fits_63 (by decide) ?_
            refine lv_icmp_gt (tgt := 72) hx hb dX9_fits_65 (by decide) (fun c_65 => ?_) (fun c_65 => ?_)
            · skip
              refine lv_iconst (v := (0 : Int32)) hx hb dX9_fits_72 (by decide) ?_
              subst hQ_
              exact z_zret C0 hP hS (v := (0 : Int32)) (by decide) (by exact Or.inr ⟨rfl, rfl, (by unfold c_fits; rw [if_neg c_3, if_neg (by omega), if_neg (fun q => by first | exact c_33 q.1 | exact absurd q.2 (by omega))]; exact fun q => by have q2 := of_decide_eq_true q; first | exact Int32.not_le.mpr c_59 q2.1 | exact Int32.not_le.mpr c_65 q2.2)⟩) dX9_fits_73
            · skip
              refine lv_iconst (v := (1 : Int32)) hx hb dX9_fits_68 (by decide) ?_
              refine lv_goto (tgt := 73) hx hb dX9_fits_69 (by decide) ?_
              subst hQ_
              exact z_zret C0 hP hS (v := (1 : Int32)) (by decide) (by exact Or.inl ⟨rfl, rfl, (by unfold c_fits; rw [if_neg c_3, if_neg (by omega), if_neg (fun q => by first | exact c_33 q.1 | exact absurd q.2 (by omega))]; exact decide_eq_true ⟨Int32.not_lt.mp c_59, Int32.not_lt.mp c_65⟩)⟩) dX9_fits_73
        · skip
          refine lv_iload_n hx hb dX9_fits_41 rfl (lv_at hl 2 rfl) ?_
          refine z_Si C0 hP hD hA hS (As := [.int ch]) (rest := []) (c_X4_ofLetter l E _ ch) (va_cwS 1 hts (zgS zbw mlRX9_38 stX4_ofLetter iniRX4 coX4_ofLetter) rfl rfl rfl (by decide +kernel) ⟨Nat.le_of_ble_eq_true rfl, Nat.le_of_ble_eq_true rfl⟩) rfl hl.1 rfl (Nat.le_of_ble_eq_true rfl) dX9_fits_42 ⟨Nat.zero_le _, Nat.zero_le _⟩ (fun r2 G2 H locs hw2 hP hS => ?_)
          obtain ⟨rfl, rfl⟩ := hw2
          refine lv_bipush (v := (-9 : Int32)) hx hb dX9_fits_45 (by decide) ?_
          refine lv_icmp_eq (tgt := 54) hx hb dX9_fits_47 (by decide) (fun c_47 => ?_) (fun c_47 => ?_)
          · skip
            refine lv_iconst (v := (0 : Int32)) hx hb dX9_fits_54 (by decide) ?_
            subst hQ_
            exact z_zret C0 hP hS (v := (0 : Int32)) (by decide) (by exact Or.inr ⟨rfl, rfl, (by unfold c_fits; rw [if_neg c_3, if_neg (by omega), if_pos ⟨c_33, by omega⟩]; exact fun q => (of_decide_eq_true q) c_47)⟩) dX9_fits_55
          · skip
            refine lv_iconst (v := (1 : Int32)) hx hb dX9_fits_50 (by decide) ?_
            refine lv_goto (tgt := 55) hx hb dX9_fits_51 (by decide) ?_
            subst hQ_
            exact z_zret C0 hP hS (v := (1 : Int32)) (by decide) (by exact Or.inl ⟨rfl, rfl, (by unfold c_fits; rw [if_neg c_3, if_neg (by omega), if_pos ⟨c_33, by omega⟩]; exact decide_eq_true c_47)⟩) dX9_fits_55
    · skip
      refine lv_iconst (v := (0 : Int32)) hx hb dX9_fits_28 (by decide) ?_
      subst hQ_
      exact z_zret C0 hP hS (v := (0 : Int32)) (by decide) (by exact Or.inr ⟨rfl, rfl, (by unfold c_fits; rw [if_neg c_3, if_pos (by omega)]; decide)⟩) dX9_fits_29
  · skip
    refine lv_iload_n hx hb dX9_fits_6 rfl (lv_at hl 1 rfl) ?_
    refine lv_iload_n hx hb dX9_fits_7 rfl (lv_at hl 0 rfl) ?_
    refine z_Si C0 hP hD hA hS (As := [.int hd]) (rest := [.int (nI i)]) (c_X9_leastInside l E _ hd) (va_cwS 1 hts (zgS zbw mlRX9_27 stX9_leastInside iniRX9 coX9_leastInside) rfl rfl rfl (by decide +kernel) ⟨Nat.le_of_ble_eq_true rfl, Nat.le_of_ble_eq_true rfl⟩) rfl hl.1 rfl (Nat.le_of_ble_eq_true rfl) dX9_fits_8 ⟨Nat.zero_le _, Nat.zero_le _⟩ (fun r3 G3 H locs hw3 hP hS => ?_)
    obtain ⟨hr3, rfl⟩ := hw3
    subst hr3
    refine z_N_le hx hb (a := i) (b := c_least hd) (tgt := 18) dX9_fits_11 rfl rfl (by omega) (by omega) (by decide) (fun c_11 => ?_) (fun c_11 => ?_)
    · skip
      refine lv_iconst (v := (0 : Int32)) hx hb dX9_fits_18 (by decide) ?_
      subst hQ_
      exact z_zret C0 hP hS (v := (0 : Int32)) (by decide) (by exact Or.inr ⟨rfl, rfl, (by unfold c_fits; rw [if_pos c_3]; exact fun q => absurd (of_decide_eq_true q) (by omega))⟩) dX9_fits_19
    · skip
      refine lv_iconst (v := (1 : Int32)) hx hb dX9_fits_14 (by decide) ?_
      refine lv_goto (tgt := 19) hx hb dX9_fits_15 (by decide) ?_
      subst hQ_
      exact z_zret C0 hP hS (v := (1 : Int32)) (by decide) (by exact Or.inl ⟨rfl, rfl, (by unfold c_fits; rw [if_pos c_3]; exact decide_eq_true (by omega))⟩) dX9_fits_19
set_option maxHeartbeats 4000000 in
set_option maxRecDepth 100000 in
theorem c_X9_endOf (l : Launch) (E : zE) (G : zG) (L : Nat → Int32) (K : Nat) (hL : G 44 = L) (hK : G 43 0 = nI K) (hK96 : K ≤ 96) (s : Nat) (hs : s ≤ K) : zMi l yX9_endOf wsX9_endOf ({ frames := 0, cells := 0, slots := 0, locals := 0 } : Room) E G [.ref (E.1 43), .int (nI s)] (fun r1 G1 => nI (c_end L K s) = r1 ∧ G = G1) := by
  refine zOf (cc := cX9_endOf) (nL := 3) (ret := (some .int)) RX9 (by decide) rfl rfl (Nat.le_of_ble_eq_true rfl) ?_
  intro p_ e_ s_ m_ a_ b_ me_ c_ ls C0 hP hS hl
  have hx := C0.1
  have hb := C0.2.1
  have hts := C0.2.2.2.2.1
  have hD : zD E (zA E s_.heap.size) := C0.2.2.2.2.2.2.2.2
  have hA : ∀ q : Nat, s_.heap.size ≤ q → zA E s_.heap.size q := fun q h => Or.inr h
  refine z_gen (fun Q_ hQ_ => ?_)
  have hl : lv_has ls 3 [(0, .ref (E.1 43)), (1, .int (nI s))] := hl
  refine lv_iload_n hx hb dX9_endOf_0 rfl (lv_at hl 1 rfl) ?_
  refine lv_istore_n (lv' := [(2, .int (nI s)), (0, .ref (E.1 43)), (1, .int (nI s))]) hx hb dX9_endOf_1 rfl hl (by decide) rfl (fun ls hl => ?_)
  have cut_2 : ∀ (fuel : Nat), ∀ (j : Nat) (H : Heap) (locs : List Loc) (ls : Array Slot), (s + j ≤ K) → (s_fst (fun j => decide (L (s + j) = 59)) j = j) → zP E G H → va_S (zA E s_.heap.size) s_.heap H locs → lv_has ls 3 [(0, .ref (E.1 43)), (1, .int (nI s)), (2, .int (nI (s + j)))] → K - j < fuel → W p_ l e_ ({ frames := 0, cells := 0, slots := 0, locals := 0 } : Room) s_ m_ a_ b_ me_ c_ H locs 0 0 Q_ (F0 m_ 2 ls []) := by
    intro fuel
    induction fuel with
    | zero =>
      intro j  H locs ls hj hf hP hS hl hfu
      exact absurd hfu (Nat.not_lt_zero _)
    | succ fuel ih_2 =>
      intro j  H locs ls hj hf hP hS hl hfu_2
      refine lv_iload_n hx hb dX9_endOf_2 rfl (lv_at hl 2 rfl) ?_
      refine lv_aload_n hx hb dX9_endOf_3 rfl (lv_at hl 0 rfl) ?_
      refine z_get C0 hP (C := RX9) (T := TX9) (N := 2) (ci := 7) (index := 9) (k := 43) (ref := "WetSuitPedalsShoes$Text") (zk_lt (rfl : zk 43 = 7) (by decide)) (zd_7 E (rfl : zk 43 = 7) _) rfl (zmi inU_9) 0 (by decide) (zm flRX9_9) rfl (v := .int (nI K)) (congrArg (fun z => some (Value.int z)) (hK)) dX9_endOf_4 ?_
      refine z_N_ge hx hb (a := s + j) (b := K) (tgt := 29) dX9_endOf_7 rfl rfl (by omega) (by omega) (by decide) (fun c_7 => ?_) (fun c_7 => ?_)
      · skip
        refine lv_aload_n hx hb dX9_endOf_29 rfl (lv_at hl 0 rfl) ?_
        refine z_get C0 hP (C := RX9) (T := TX9) (N := 2) (ci := 7) (index := 9) (k := 43) (ref := "WetSuitPedalsShoes$Text") (zk_lt (rfl : zk 43 = 7) (by decide)) (zd_7 E (rfl : zk 43 = 7) _) rfl (zmi inU_9) 0 (by decide) (zm flRX9_9) rfl (v := .int (nI K)) (congrArg (fun z => some (Value.int z)) (hK)) dX9_endOf_30 ?_
        subst hQ_
        exact z_iret C0 hP hS (v := (nI K)) (by have e9 : j = K - s := (by omega); rw [e9] at hf; exact ⟨congrArg nI (by unfold c_end; rw [hf]; omega), rfl⟩) dX9_endOf_33
      · skip
        refine lv_aload_n hx hb dX9_endOf_10 rfl (lv_at hl 0 rfl) ?_
        refine z_get C0 hP (C := RX9) (T := TX9) (N := 2) (ci := 7) (index := 15) (k := 43) (ref := "WetSuitPedalsShoes$Text") (zk_lt (rfl : zk 43 = 7) (by decide)) (zd_7 E (rfl : zk 43 = 7) _) rfl (zmi inU_9) 1 (by decide) (zm flRX9_15) rfl (v := .ref (E.1 44)) (rfl) dX9_endOf_11 ?_
        refine lv_iload_n hx hb dX9_endOf_14 rfl (lv_at hl 2 rfl) ?_
        refine z_iald C0 hP (k := 44) (i := s + j) (v := (L (s + j))) (rfl : zk 44 = 11) (Nat.lt_of_lt_of_eq (show s + j < 96 by omega) (rfl : zl 44 = 96).symm) rfl dX9_endOf_15 (congrFun (hL) _) ?_
        refine lv_bipush (v := (59 : Int32)) hx hb dX9_endOf_16 (by decide) ?_
        refine lv_icmp_ne (tgt := 23) hx hb dX9_endOf_18 (by decide) (fun c_18 => ?_) (fun c_18 => ?_)
        · skip
          refine lv_iinc (v := (nI (s + j + 1))) (lv' := [(2, .int (nI (s + j + 1))), (0, .ref (E.1 43)), (1, .int (nI s))]) hx hb dX9_endOf_23 hl (k := 2) rfl (z_inc (by decide)) (by decide) rfl (fun ls hl => ?_)
          refine lv_goto (tgt := 2) hx hb dX9_endOf_26 (by decide) ?_
          exact ih_2 (j + 1) _ _ _ (by first | assumption | omega) (by exact s_fst_no hf (fun q => c_18 (of_decide_eq_true q))) hP hS (lv_sub hl [1, 2, 0] rfl) (by omega)
        · skip
          refine lv_iload_n hx hb dX9_endOf_21 rfl (lv_at hl 2 rfl) ?_
          subst hQ_
          exact z_iret C0 hP hS (v := (nI (s + j))) (by have e9 := s_fst_yes (n := K - s) hf (decide_eq_true c_18) (by omega); exact ⟨congrArg nI (by unfold c_end; rw [e9]), rfl⟩) dX9_endOf_22
  exact cut_2 (_ + 1) 0 _ _ _ (by first | assumption | omega) (by rfl) hP hS (lv_sub hl [1, 2, 0] rfl) (Nat.lt_succ_self _)
set_option maxHeartbeats 4000000 in
set_option maxRecDepth 100000 in
theorem c_X9_digit (l : Launch) (E : zE) (G : zG) (L : Nat → Int32) (K : Nat) (hL : G 44 = L) (hK : G 43 0 = nI K) (hK96 : K ≤ 96) (q : Nat) (hq : q < K) : zMi l yX9_digit wsX9_digit ({ frames := 0, cells := 0, slots := 0, locals := 0 } : Room) E G [.ref (E.1 43), .int (nI q)] (fun r1 G1 => L q - 48 = r1 ∧ G = G1) := by
  refine zOf (cc := cX9_digit) (nL := 2) (ret := (some .int)) RX9 (by decide) rfl rfl (Nat.le_of_ble_eq_true rfl) ?_
  intro p_ e_ s_ m_ a_ b_ me_ c_ ls C0 hP hS hl
  have hx := C0.1
  have hb := C0.2.1
  have hts := C0.2.2.2.2.1
  have hD : zD E (zA E s_.heap.size) := C0.2.2.2.2.2.2.2.2
  have hA : ∀ q : Nat, s_.heap.size ≤ q → zA E s_.heap.size q := fun q h => Or.inr h
  refine z_gen (fun Q_ hQ_ => ?_)
  have hl : lv_has ls 2 [(0, .ref (E.1 43)), (1, .int (nI q))] := hl
  refine lv_iload_n hx hb dX9_digit_0 rfl (lv_at hl 1 rfl) ?_
  refine z_0_lt hx hb (a := q) (tgt := 24) dX9_digit_1 rfl (by omega) (by decide) (fun c_1 => ?_) (fun c_1 => ?_)
  · exact absurd c_1 (by omega)
  · skip
    refine lv_iload_n hx hb dX9_digit_4 rfl (lv_at hl 1 rfl) ?_
    refine lv_aload_n hx hb dX9_digit_5 rfl (lv_at hl 0 rfl) ?_
    refine z_get C0 hP (C := RX9) (T := TX9) (N := 2) (ci := 7) (index := 9) (k := 43) (ref := "WetSuitPedalsShoes$Text") (zk_lt (rfl : zk 43 = 7) (by decide)) (zd_7 E (rfl : zk 43 = 7) _) rfl (zmi inU_9) 0 (by decide) (zm flRX9_9) rfl (v := .int (nI K)) (congrArg (fun z => some (Value.int z)) (hK)) dX9_digit_6 ?_
    refine z_N_ge hx hb (a := q) (b := K) (tgt := 24) dX9_digit_9 rfl rfl (by omega) (by omega) (by decide) (fun c_9 => ?_) (fun c_9 => ?_)
    · exact absurd c_9 (by omega)
    · skip
      refine lv_aload_n hx hb dX9_digit_12 rfl (lv_at hl 0 rfl) ?_
      refine z_get C0 hP (C := RX9) (T := TX9) (N := 2) (ci := 7) (index := 15) (k := 43) (ref := "WetSuitPedalsShoes$Text") (zk_lt (rfl : zk 43 = 7) (by decide)) (zd_7 E (rfl : zk 43 = 7) _) rfl (zmi inU_9) 1 (by decide) (zm flRX9_15) rfl (v := .ref (E.1 44)) (rfl) dX9_digit_13 ?_
      refine lv_iload_n hx hb dX9_digit_16 rfl (lv_at hl 1 rfl) ?_
      refine z_iald C0 hP (k := 44) (i := q) (v := (L q)) (rfl : zk 44 = 11) (Nat.lt_of_lt_of_eq (show q < 96 by omega) (rfl : zl 44 = 96).symm) rfl dX9_digit_17 (congrFun (hL) _) ?_
      refine lv_bipush (v := (48 : Int32)) hx hb dX9_digit_18 (by decide) ?_
      refine lv_isub hx hb dX9_digit_20 ?_
      refine lv_goto (tgt := 25) hx hb dX9_digit_21 (by decide) ?_
      subst hQ_
      exact z_iret C0 hP hS (v := ((L q) - (48 : Int32))) (by exact ⟨rfl, rfl⟩) dX9_digit_25
set_option maxHeartbeats 4000000 in
set_option maxRecDepth 100000 in
theorem c_X9_letterAt (l : Launch) (E : zE) (G : zG) (L : Nat → Int32) (K : Nat) (hL : G 44 = L) (hK : G 43 0 = nI K) (hK96 : K ≤ 96) (q : Nat) (hq : q < K) : zMi l yX9_letterAt wsX9_letterAt ({ frames := 0, cells := 0, slots := 0, locals := 0 } : Room) E G [.ref (E.1 43), .int (nI q)] (fun r1 G1 => L q = r1 ∧ G = G1) := by
  refine zOf (cc := cX9_letterAt) (nL := 2) (ret := (some .int)) RX9 (by decide) rfl rfl (Nat.le_of_ble_eq_true rfl) ?_
  intro p_ e_ s_ m_ a_ b_ me_ c_ ls C0 hP hS hl
  have hx := C0.1
  have hb := C0.2.1
  have hts := C0.2.2.2.2.1
  have hD : zD E (zA E s_.heap.size) := C0.2.2.2.2.2.2.2.2
  have hA : ∀ q : Nat, s_.heap.size ≤ q → zA E s_.heap.size q := fun q h => Or.inr h
  refine z_gen (fun Q_ hQ_ => ?_)
  have hl : lv_has ls 2 [(0, .ref (E.1 43)), (1, .int (nI q))] := hl
  refine lv_iload_n hx hb dX9_letterAt_0 rfl (lv_at hl 1 rfl) ?_
  refine z_0_lt hx hb (a := q) (tgt := 21) dX9_letterAt_1 rfl (by omega) (by decide) (fun c_1 => ?_) (fun c_1 => ?_)
  · exact absurd c_1 (by omega)
  · skip
    refine lv_iload_n hx hb dX9_letterAt_4 rfl (lv_at hl 1 rfl) ?_
    refine lv_aload_n hx hb dX9_letterAt_5 rfl (lv_at hl 0 rfl) ?_
    refine z_get C0 hP (C := RX9) (T := TX9) (N := 2) (ci := 7) (index := 9) (k := 43) (ref := "WetSuitPedalsShoes$Text") (zk_lt (rfl : zk 43 = 7) (by decide)) (zd_7 E (rfl : zk 43 = 7) _) rfl (zmi inU_9) 0 (by decide) (zm flRX9_9) rfl (v := .int (nI K)) (congrArg (fun z => some (Value.int z)) (hK)) dX9_letterAt_6 ?_
    refine z_N_ge hx hb (a := q) (b := K) (tgt := 21) dX9_letterAt_9 rfl rfl (by omega) (by omega) (by decide) (fun c_9 => ?_) (fun c_9 => ?_)
    · exact absurd c_9 (by omega)
    · skip
      refine lv_aload_n hx hb dX9_letterAt_12 rfl (lv_at hl 0 rfl) ?_
      refine z_get C0 hP (C := RX9) (T := TX9) (N := 2) (ci := 7) (index := 15) (k := 43) (ref := "WetSuitPedalsShoes$Text") (zk_lt (rfl : zk 43 = 7) (by decide)) (zd_7 E (rfl : zk 43 = 7) _) rfl (zmi inU_9) 1 (by decide) (zm flRX9_15) rfl (v := .ref (E.1 44)) (rfl) dX9_letterAt_13 ?_
      refine lv_iload_n hx hb dX9_letterAt_16 rfl (lv_at hl 1 rfl) ?_
      refine z_iald C0 hP (k := 44) (i := q) (v := (L q)) (rfl : zk 44 = 11) (Nat.lt_of_lt_of_eq (show q < 96 by omega) (rfl : zl 44 = 96).symm) rfl dX9_letterAt_17 (congrFun (hL) _) ?_
      refine lv_goto (tgt := 22) hx hb dX9_letterAt_18 (by decide) ?_
      subst hQ_
      exact z_iret C0 hP hS (v := (L q)) (by exact ⟨rfl, rfl⟩) dX9_letterAt_22
theorem mlRX9_31 : Cond.methodLink RX9 31 yX9_fits ∈ zU := zU_m 337 (by decide +kernel) rfl
theorem coX9_fits : Cond.code yX9_fits cX9_fits 3 (some .boolean) ∈ zU := zU_m 339 (by decide +kernel) rfl
theorem stX9_fits : Cond.static yX9_fits ∈ zU := zU_m 338 (by decide +kernel) rfl
set_option maxHeartbeats 4000000 in
set_option maxRecDepth 100000 in
theorem c_X9_placeOfBadLetter (l : Launch) (E : zE) (G : zG) (L : Nat → Int32) (K : Nat) (hL : G 44 = L) (hK : G 43 0 = nI K) (hK96 : K ≤ 96)  : zMi l yX9_placeOfBadLetter wsX9_placeOfBadLetter ({ frames := 3, cells := 0, slots := 0, locals := 62 } : Room) E G [.ref (E.1 43)] (fun r1 G1 => c_f1 L K = r1 ∧ G = G1) := by
  refine zOf (cc := cX9_placeOfBadLetter) (nL := 5) (ret := (some .int)) RX9 (by decide) rfl rfl (Nat.le_of_ble_eq_true rfl) ?_
  intro p_ e_ s_ m_ a_ b_ me_ c_ ls C0 hP hS hl
  have hx := C0.1
  have hb := C0.2.1
  have hts := C0.2.2.2.2.1
  have hD : zD E (zA E s_.heap.size) := C0.2.2.2.2.2.2.2.2
  have hA : ∀ q : Nat, s_.heap.size ≤ q → zA E s_.heap.size q := fun q h => Or.inr h
  refine z_gen (fun Q_ hQ_ => ?_)
  have hl : lv_has ls 5 [(0, .ref (E.1 43))] := hl
  refine lv_iconst (v := (0 : Int32)) hx hb dX9_placeOfBadLetter_0 (by decide) ?_
  refine lv_istore_n (lv' := [(1, .int (0 : Int32)), (0, .ref (E.1 43))]) hx hb dX9_placeOfBadLetter_1 rfl hl (by decide) rfl (fun ls hl => ?_)
  refine lv_iconst (v := (0 : Int32)) hx hb dX9_placeOfBadLetter_2 (by decide) ?_
  refine lv_istore_n (lv' := [(2, .int (0 : Int32)), (1, .int (0 : Int32)), (0, .ref (E.1 43))]) hx hb dX9_placeOfBadLetter_3 rfl hl (by decide) rfl (fun ls hl => ?_)
  have cut_4 : ∀ (fuel : Nat), ∀ (st p : Nat) (H : Heap) (locs : List Loc) (ls : Array Slot), (p ≤ K) → (st = c_st L p) → (st ≤ p) → (s_fst (c_b L) p = p) → zP E G H → va_S (zA E s_.heap.size) s_.heap H locs → lv_has ls 5 [(0, .ref (E.1 43)), (1, .int (nI st)), (2, .int (nI p))] → K - p < fuel → W p_ l e_ ({ frames := 3, cells := 0, slots := 0, locals := 62 } : Room) s_ m_ a_ b_ me_ c_ H locs 0 0 Q_ (F0 m_ 4 ls []) := by
    intro fuel
    induction fuel with
    | zero =>
      intro st p  H locs ls hp hst hle hf hP hS hl hfu
      exact absurd hfu (Nat.not_lt_zero _)
    | succ fuel ih_4 =>
      intro st p  H locs ls hp hst hle hf hP hS hl hfu_4
      refine lv_iload_n hx hb dX9_placeOfBadLetter_4 rfl (lv_at hl 2 rfl) ?_
      refine lv_aload_n hx hb dX9_placeOfBadLetter_5 rfl (lv_at hl 0 rfl) ?_
      refine z_get C0 hP (C := RX9) (T := TX9) (N := 2) (ci := 7) (index := 9) (k := 43) (ref := "WetSuitPedalsShoes$Text") (zk_lt (rfl : zk 43 = 7) (by decide)) (zd_7 E (rfl : zk 43 = 7) _) rfl (zmi inU_9) 0 (by decide) (zm flRX9_9) rfl (v := .int (nI K)) (congrArg (fun z => some (Value.int z)) (hK)) dX9_placeOfBadLetter_6 ?_
      refine z_N_ge hx hb (a := p) (b := K) (tgt := 72) dX9_placeOfBadLetter_9 rfl rfl (by omega) (by omega) (by decide) (fun c_9 => ?_) (fun c_9 => ?_)
      · skip
        refine lv_iload_n hx hb dX9_placeOfBadLetter_72 rfl (lv_at hl 1 rfl) ?_
        refine lv_aload_n hx hb dX9_placeOfBadLetter_73 rfl (lv_at hl 0 rfl) ?_
        refine z_get C0 hP (C := RX9) (T := TX9) (N := 2) (ci := 7) (index := 9) (k := 43) (ref := "WetSuitPedalsShoes$Text") (zk_lt (rfl : zk 43 = 7) (by decide)) (zd_7 E (rfl : zk 43 = 7) _) rfl (zmi inU_9) 0 (by decide) (zm flRX9_9) rfl (v := .int (nI K)) (congrArg (fun z => some (Value.int z)) (hK)) dX9_placeOfBadLetter_74 ?_
        refine z_N_lt hx hb (a := st) (b := K) (tgt := 87) dX9_placeOfBadLetter_77 rfl rfl (by omega) (by omega) (by decide) (fun c_77 => ?_) (fun c_77 => ?_)
        · skip
          refine lv_aload_n hx hb dX9_placeOfBadLetter_87 rfl (lv_at hl 0 rfl) ?_
          refine z_get C0 hP (C := RX9) (T := TX9) (N := 2) (ci := 7) (index := 9) (k := 43) (ref := "WetSuitPedalsShoes$Text") (zk_lt (rfl : zk 43 = 7) (by decide)) (zd_7 E (rfl : zk 43 = 7) _) rfl (zmi inU_9) 0 (by decide) (zm flRX9_9) rfl (v := .int (nI K)) (congrArg (fun z => some (Value.int z)) (hK)) dX9_placeOfBadLetter_88 ?_
          refine lv_goto (tgt := 96) hx hb dX9_placeOfBadLetter_91 (by decide) ?_
          subst hQ_
          exact z_iret C0 hP hS (v := (nI K)) (by have e9 : p = K := (by omega); rw [e9] at hst hf; exact ⟨cf1_K hf (by rw [← hst]; omega), rfl⟩) dX9_placeOfBadLetter_96
        · skip
          refine lv_aload_n hx hb dX9_placeOfBadLetter_80 rfl (lv_at hl 0 rfl) ?_
          refine z_get C0 hP (C := RX9) (T := TX9) (N := 2) (ci := 7) (index := 9) (k := 43) (ref := "WetSuitPedalsShoes$Text") (zk_lt (rfl : zk 43 = 7) (by decide)) (zd_7 E (rfl : zk 43 = 7) _) rfl (zmi inU_9) 0 (by decide) (zm flRX9_9) rfl (v := .int (nI K)) (congrArg (fun z => some (Value.int z)) (hK)) dX9_placeOfBadLetter_81 ?_
          refine z_0_ne hx hb (a := K) (tgt := 94) dX9_placeOfBadLetter_84 rfl (by omega) (by decide) (fun c_84 => ?_) (fun c_84 => ?_)
          · skip
            refine lv_bipush (v := (-9 : Int32)) hx hb dX9_placeOfBadLetter_94 (by decide) ?_
            subst hQ_
            exact z_iret C0 hP hS (v := (-9 : Int32)) (by have e9 : p = K := (by omega); rw [e9] at hst hf; exact ⟨cf1_9 hf (by rw [← hst]; omega), rfl⟩) dX9_placeOfBadLetter_96
          · skip
            refine lv_aload_n hx hb dX9_placeOfBadLetter_87 rfl (lv_at hl 0 rfl) ?_
            refine z_get C0 hP (C := RX9) (T := TX9) (N := 2) (ci := 7) (index := 9) (k := 43) (ref := "WetSuitPedalsShoes$Text") (zk_lt (rfl : zk 43 = 7) (by decide)) (zd_7 E (rfl : zk 43 = 7) _) rfl (zmi inU_9) 0 (by decide) (zm flRX9_9) rfl (v := .int (nI K)) (congrArg (fun z => some (Value.int z)) (hK)) dX9_placeOfBadLetter_88 ?_
            refine lv_goto (tgt := 96) hx hb dX9_placeOfBadLetter_91 (by decide) ?_
            subst hQ_
            exact z_iret C0 hP hS (v := (nI K)) (by have e9 : p = K := (by omega); rw [e9] at hst hf; exact ⟨cf1_K hf (by rw [← hst]; omega), rfl⟩) dX9_placeOfBadLetter_96
      · skip
        refine lv_aload_n hx hb dX9_placeOfBadLetter_12 rfl (lv_at hl 0 rfl) ?_
        refine z_get C0 hP (C := RX9) (T := TX9) (N := 2) (ci := 7) (index := 15) (k := 43) (ref := "WetSuitPedalsShoes$Text") (zk_lt (rfl : zk 43 = 7) (by decide)) (zd_7 E (rfl : zk 43 = 7) _) rfl (zmi inU_9) 1 (by decide) (zm flRX9_15) rfl (v := .ref (E.1 44)) (rfl) dX9_placeOfBadLetter_13 ?_
        refine lv_iload_n hx hb dX9_placeOfBadLetter_16 rfl (lv_at hl 2 rfl) ?_
        refine z_iald C0 hP (k := 44) (i := p) (v := (L p)) (rfl : zk 44 = 11) (Nat.lt_of_lt_of_eq (show p < 96 by omega) (rfl : zl 44 = 96).symm) rfl dX9_placeOfBadLetter_17 (congrFun (hL) _) ?_
        refine lv_istore_n (lv' := [(3, .int (L p)), (0, .ref (E.1 43)), (1, .int (nI st)), (2, .int (nI p))]) hx hb dX9_placeOfBadLetter_18 rfl hl (by decide) rfl (fun ls hl => ?_)
        refine lv_iload_n hx hb dX9_placeOfBadLetter_19 rfl (lv_at hl 3 rfl) ?_
        refine lv_iload_n hx hb dX9_placeOfBadLetter_20 rfl (lv_at hl 2 rfl) ?_
        refine z_isub hx hb (a := p) (b := st) (n := p - st) dX9_placeOfBadLetter_21 rfl rfl (by omega) (by omega) ?_
        refine lv_istore (lv' := [(4, .int (nI (p - st))), (3, .int (L p)), (0, .ref (E.1 43)), (1, .int (nI st)), (2, .int (nI p))]) hx hb dX9_placeOfBadLetter_22 hl (by decide) rfl (fun ls hl => ?_)
        refine lv_iload hx hb dX9_placeOfBadLetter_24 (lv_at hl 0 rfl) ?_
        refine z_0_ne hx hb (a := p - st) (tgt := 39) dX9_placeOfBadLetter_26 rfl (by omega) (by decide) (fun c_26 => ?_) (fun c_26 => ?_)
        · skip
          refine lv_aload_n hx hb dX9_placeOfBadLetter_39 rfl (lv_at hl 2 rfl) ?_
          refine z_get C0 hP (C := RX9) (T := TX9) (N := 2) (ci := 7) (index := 15) (k := 43) (ref := "WetSuitPedalsShoes$Text") (zk_lt (rfl : zk 43 = 7) (by decide)) (zd_7 E (rfl : zk 43 = 7) _) rfl (zmi inU_9) 1 (by decide) (zm flRX9_15) rfl (v := .ref (E.1 44)) (rfl) dX9_placeOfBadLetter_40 ?_
          refine lv_iload_n hx hb dX9_placeOfBadLetter_43 rfl (lv_at hl 3 rfl) ?_
          refine z_iald C0 hP (k := 44) (i := st) (v := (L st)) (rfl : zk 44 = 11) (Nat.lt_of_lt_of_eq (show st < 96 by omega) (rfl : zl 44 = 96).symm) rfl dX9_placeOfBadLetter_44 (congrFun (hL) _) ?_
          refine lv_iload hx hb dX9_placeOfBadLetter_45 (lv_at hl 0 rfl) ?_
          refine lv_iload_n hx hb dX9_placeOfBadLetter_47 rfl (lv_at hl 1 rfl) ?_
          refine z_Si C0 hP hD hA hS (As := [.int (L st), .int (nI (p - st)), .int (L p)]) (rest := []) (c_X9_fits l E _ (L st) (p - st) (L p) (by omega)) (va_cwS 3 hts (zgS zbw mlRX9_31 stX9_fits iniRX9 coX9_fits) rfl rfl rfl (by decide +kernel) ⟨Nat.le_of_ble_eq_true rfl, Nat.le_of_ble_eq_true rfl⟩) rfl hl.1 rfl (Nat.le_of_ble_eq_true rfl) dX9_placeOfBadLetter_48 ⟨Nat.zero_le _, Nat.zero_le _⟩ (fun r1 G1 H locs hw1 hP hS => ?_)
          rcases hw1 with ⟨rfl, rfl, hfi⟩ | ⟨rfl, rfl, hfi⟩
          · skip
            refine lv_if_ne (tgt := 56) hx hb dX9_placeOfBadLetter_51 (by decide) (fun _ => ?_) (fun h_ => absurd h_ (by decide))
            refine lv_iload_n hx hb dX9_placeOfBadLetter_56 rfl (lv_at hl 1 rfl) ?_
            refine lv_bipush (v := (59 : Int32)) hx hb dX9_placeOfBadLetter_57 (by decide) ?_
            refine lv_icmp_ne (tgt := 66) hx hb dX9_placeOfBadLetter_59 (by decide) (fun c_59 => ?_) (fun c_59 => ?_)
            · skip
              refine lv_iinc (v := (nI (p + 1))) (lv' := [(2, .int (nI (p + 1))), (4, .int (nI (p - st))), (3, .int (L p)), (0, .ref (E.1 43)), (1, .int (nI st))]) hx hb dX9_placeOfBadLetter_66 hl (k := 4) rfl (z_inc (by decide)) (by decide) rfl (fun ls hl => ?_)
              refine lv_goto (tgt := 4) hx hb dX9_placeOfBadLetter_69 (by decide) ?_
              exact ih_4 st (p + 1) _ _ _ (by first | assumption | omega) (by show _ = if L p = 59 then p + 1 else c_st L p; first | (rw [if_pos c_59]; done) | (rw [if_neg c_59]; exact hst)) (by first | assumption | omega) (by exact s_fst_no hf (fun q => (of_decide_eq_true q) (by rw [← hst]; unfold c_good; first | (rw [if_pos (show p = st by omega)]; exact decide_eq_true (by omega)) | (rw [if_neg (show ¬ p = st by omega)]; exact hfi)))) hP hS (lv_sub hl [3, 4, 0] rfl) (by omega)
            · skip
              refine lv_iload_n hx hb dX9_placeOfBadLetter_62 rfl (lv_at hl 4 rfl) ?_
              refine lv_iconst (v := (1 : Int32)) hx hb dX9_placeOfBadLetter_63 (by decide) ?_
              refine z_iadd hx hb (a := p) (b := 1) (n := p + 1) dX9_placeOfBadLetter_64 rfl rfl rfl ?_
              refine lv_istore_n (lv' := [(1, .int (nI (p + 1))), (4, .int (nI (p - st))), (3, .int (L p)), (0, .ref (E.1 43)), (2, .int (nI p))]) hx hb dX9_placeOfBadLetter_65 rfl hl (by decide) rfl (fun ls hl => ?_)
              refine lv_iinc (v := (nI (p + 1))) (lv' := [(2, .int (nI (p + 1))), (1, .int (nI (p + 1))), (4, .int (nI (p - st))), (3, .int (L p)), (0, .ref (E.1 43))]) hx hb dX9_placeOfBadLetter_66 hl (k := 4) rfl (z_inc (by decide)) (by decide) rfl (fun ls hl => ?_)
              refine lv_goto (tgt := 4) hx hb dX9_placeOfBadLetter_69 (by decide) ?_
              exact ih_4 (p + 1) (p + 1) _ _ _ (by first | assumption | omega) (by show _ = if L p = 59 then p + 1 else c_st L p; first | (rw [if_pos c_59]; done) | (rw [if_neg c_59]; exact hst)) (by first | assumption | omega) (by exact s_fst_no hf (fun q => (of_decide_eq_true q) (by rw [← hst]; unfold c_good; first | (rw [if_pos (show p = st by omega)]; exact decide_eq_true (by omega)) | (rw [if_neg (show ¬ p = st by omega)]; exact hfi)))) hP hS (lv_sub hl [4, 1, 0] rfl) (by omega)
          · skip
            refine lv_if_ne (tgt := 56) hx hb dX9_placeOfBadLetter_51 (by decide) (fun h_ => absurd (by decide) h_) (fun _ => ?_)
            refine lv_iload_n hx hb dX9_placeOfBadLetter_54 rfl (lv_at hl 4 rfl) ?_
            subst hQ_
            exact z_iret C0 hP hS (v := (nI p)) (by exact ⟨cf1_y hf (by omega) (by rw [← hst]; unfold c_good; first | (rw [if_pos (show p = st by omega)]; exact fun q => (of_decide_eq_true q) (by omega)) | (rw [if_neg (show ¬ p = st by omega)]; exact hfi)), rfl⟩) dX9_placeOfBadLetter_55
        · skip
          refine lv_iload_n hx hb dX9_placeOfBadLetter_29 rfl (lv_at hl 1 rfl) ?_
          refine z_Si C0 hP hD hA hS (As := [.int (L p)]) (rest := []) (c_X9_leastInside l E _ (L p)) (va_cwS 1 hts (zgS zbw mlRX9_27 stX9_leastInside iniRX9 coX9_leastInside) rfl rfl rfl (by decide +kernel) ⟨Nat.le_of_ble_eq_true rfl, Nat.le_of_ble_eq_true rfl⟩) rfl hl.1 rfl (Nat.le_of_ble_eq_true rfl) dX9_placeOfBadLetter_30 ⟨Nat.zero_le _, Nat.zero_le _⟩ (fun r2 G2 H locs hw2 hP hS => ?_)
          obtain ⟨hr2, rfl⟩ := hw2
          subst hr2
          refine z_0_ne hx hb (a := c_least (L p)) (tgt := 56) dX9_placeOfBadLetter_33 rfl (by (have b1 := c_least_le (L p); omega)) (by decide) (fun c_33 => ?_) (fun c_33 => ?_)
          · skip
            refine lv_iload_n hx hb dX9_placeOfBadLetter_56 rfl (lv_at hl 1 rfl) ?_
            refine lv_bipush (v := (59 : Int32)) hx hb dX9_placeOfBadLetter_57 (by decide) ?_
            refine lv_icmp_ne (tgt := 66) hx hb dX9_placeOfBadLetter_59 (by decide) (fun c_59 => ?_) (fun c_59 => ?_)
            · skip
              refine lv_iinc (v := (nI (p + 1))) (lv' := [(2, .int (nI (p + 1))), (4, .int (nI (p - st))), (3, .int (L p)), (0, .ref (E.1 43)), (1, .int (nI st))]) hx hb dX9_placeOfBadLetter_66 hl (k := 4) rfl (z_inc (by decide)) (by decide) rfl (fun ls hl => ?_)
              refine lv_goto (tgt := 4) hx hb dX9_placeOfBadLetter_69 (by decide) ?_
              exact ih_4 st (p + 1) _ _ _ (by first | assumption | omega) (by show _ = if L p = 59 then p + 1 else c_st L p; first | (rw [if_pos c_59]; done) | (rw [if_neg c_59]; exact hst)) (by first | assumption | omega) (by exact s_fst_no hf (fun q => (of_decide_eq_true q) (by rw [← hst]; unfold c_good; first | (rw [if_pos (show p = st by omega)]; exact decide_eq_true (by omega)) | (rw [if_neg (show ¬ p = st by omega)]; exact hfi)))) hP hS (lv_sub hl [3, 4, 0] rfl) (by omega)
            · skip
              refine lv_iload_n hx hb dX9_placeOfBadLetter_62 rfl (lv_at hl 4 rfl) ?_
              refine lv_iconst (v := (1 : Int32)) hx hb dX9_placeOfBadLetter_63 (by decide) ?_
              refine z_iadd hx hb (a := p) (b := 1) (n := p + 1) dX9_placeOfBadLetter_64 rfl rfl rfl ?_
              refine lv_istore_n (lv' := [(1, .int (nI (p + 1))), (4, .int (nI (p - st))), (3, .int (L p)), (0, .ref (E.1 43)), (2, .int (nI p))]) hx hb dX9_placeOfBadLetter_65 rfl hl (by decide) rfl (fun ls hl => ?_)
              refine lv_iinc (v := (nI (p + 1))) (lv' := [(2, .int (nI (p + 1))), (1, .int (nI (p + 1))), (4, .int (nI (p - st))), (3, .int (L p)), (0, .ref (E.1 43))]) hx hb dX9_placeOfBadLetter_66 hl (k := 4) rfl (z_inc (by decide)) (by decide) rfl (fun ls hl => ?_)
              refine lv_goto (tgt := 4) hx hb dX9_placeOfBadLetter_69 (by decide) ?_
              exact ih_4 (p + 1) (p + 1) _ _ _ (by first | assumption | omega) (by show _ = if L p = 59 then p + 1 else c_st L p; first | (rw [if_pos c_59]; done) | (rw [if_neg c_59]; exact hst)) (by first | assumption | omega) (by exact s_fst_no hf (fun q => (of_decide_eq_true q) (by rw [← hst]; unfold c_good; first | (rw [if_pos (show p = st by omega)]; exact decide_eq_true (by omega)) | (rw [if_neg (show ¬ p = st by omega)]; exact hfi)))) hP hS (lv_sub hl [4, 1, 0] rfl) (by omega)
          · skip
            refine lv_goto (tgt := 54) hx hb dX9_placeOfBadLetter_36 (by decide) ?_
            refine lv_iload_n hx hb dX9_placeOfBadLetter_54 rfl (lv_at hl 4 rfl) ?_
            subst hQ_
            exact z_iret C0 hP hS (v := (nI p)) (by exact ⟨cf1_y hf (by omega) (by rw [← hst]; unfold c_good; first | (rw [if_pos (show p = st by omega)]; exact fun q => (of_decide_eq_true q) (by omega)) | (rw [if_neg (show ¬ p = st by omega)]; exact hfi)), rfl⟩) dX9_placeOfBadLetter_55
  exact cut_4 (_ + 1) 0 0 _ _ _ (by first | assumption | omega) (by rfl) (by first | assumption | omega) (by rfl) hP hS (lv_sub hl [2, 1, 0] rfl) (Nat.lt_succ_self _)
theorem mlRX9_63 : Cond.methodLink RX9 63 yX9_digit ∈ zU := zU_m 358 (by decide +kernel) rfl
theorem coX9_digit : Cond.code yX9_digit cX9_digit 2 (some .int) ∈ zU := zU_m 361 (by decide +kernel) rfl
theorem imX9_digit : Cond.instanceMethod yX9_digit ∈ zU := zU_m 360 (by decide +kernel) rfl
theorem seX9_digit : Cond.selects RX9 yX9_digit yX9_digit ∈ zU := zU_m 5 (by decide +kernel) rfl
set_option maxHeartbeats 4000000 in
set_option maxRecDepth 100000 in
theorem c_X9_areTries (l : Launch) (E : zE) (G : zG) (L : Nat → Int32) (K : Nat) (hL : G 44 = L) (hK : G 43 0 = nI K) (hK96 : K ≤ 96) (b e : Nat) (hbe : b ≤ e) (heK : e ≤ K) (hdg : ∀ p, b ≤ p → p < e → c_dig (L p) = true) : zMi l yX9_areTries wsX9_areTries ({ frames := 1, cells := 0, slots := 0, locals := 21 } : Room) E G [.ref (E.1 43), .int (nI b), .int (nI e)] (fun r1 G1 => (1 = r1 ∧ G = G1 ∧ s_fst (fun j => decide (3 < dn L (b + j))) (e - b) = e - b) ∨ (0 = r1 ∧ G = G1 ∧ ¬ s_fst (fun j => decide (3 < dn L (b + j))) (e - b) = e - b)) := by
  refine zOf (cc := cX9_areTries) (nL := 4) (ret := (some .boolean)) RX9 (by decide) rfl rfl (Nat.le_of_ble_eq_true rfl) ?_
  intro p_ e_ s_ m_ a_ b_ me_ c_ ls C0 hP hS hl
  have hx := C0.1
  have hb := C0.2.1
  have hts := C0.2.2.2.2.1
  have hD : zD E (zA E s_.heap.size) := C0.2.2.2.2.2.2.2.2
  have hA : ∀ q : Nat, s_.heap.size ≤ q → zA E s_.heap.size q := fun q h => Or.inr h
  refine z_gen (fun Q_ hQ_ => ?_)
  have hl : lv_has ls 4 [(0, .ref (E.1 43)), (1, .int (nI b)), (2, .int (nI e))] := hl
  refine lv_iload_n hx hb dX9_areTries_0 rfl (lv_at hl 1 rfl) ?_
  refine lv_istore_n (lv' := [(3, .int (nI b)), (0, .ref (E.1 43)), (1, .int (nI b)), (2, .int (nI e))]) hx hb dX9_areTries_1 rfl hl (by decide) rfl (fun ls hl => ?_)
  have cut_2 : ∀ (fuel : Nat), ∀ (j : Nat) (H : Heap) (locs : List Loc) (ls : Array Slot), (b + j ≤ e) → (s_fst (fun j => decide (3 < dn L (b + j))) j = j) → zP E G H → va_S (zA E s_.heap.size) s_.heap H locs → lv_has ls 4 [(0, .ref (E.1 43)), (1, .int (nI b)), (2, .int (nI e)), (3, .int (nI (b + j)))] → e - j < fuel → W p_ l e_ ({ frames := 1, cells := 0, slots := 0, locals := 21 } : Room) s_ m_ a_ b_ me_ c_ H locs 0 0 Q_ (F0 m_ 2 ls []) := by
    intro fuel
    induction fuel with
    | zero =>
      intro j  H locs ls hj hf hP hS hl hfu
      exact absurd hfu (Nat.not_lt_zero _)
    | succ fuel ih_2 =>
      intro j  H locs ls hj hf hP hS hl hfu_2
      refine lv_iload_n hx hb dX9_areTries_2 rfl (lv_at hl 3 rfl) ?_
      refine lv_iload_n hx hb dX9_areTries_3 rfl (lv_at hl 2 rfl) ?_
      refine z_N_ge hx hb (a := b + j) (b := e) (tgt := 24) dX9_areTries_4 rfl rfl (by omega) (by omega) (by decide) (fun c_4 => ?_) (fun c_4 => ?_)
      · skip
        refine lv_iconst (v := (1 : Int32)) hx hb dX9_areTries_24 (by decide) ?_
        subst hQ_
        exact z_zret C0 hP hS (v := (1 : Int32)) (by decide) (by exact Or.inl ⟨rfl, rfl, by have e9 : j = e - b := (by omega); rw [e9] at hf; exact hf⟩) dX9_areTries_25
      · skip
        refine lv_aload_n hx hb dX9_areTries_7 rfl (lv_at hl 0 rfl) ?_
        refine lv_iload_n hx hb dX9_areTries_8 rfl (lv_at hl 3 rfl) ?_
        refine z_Vi C0 hP hD hA hS (As := [.int (nI (b + j))]) (rest := []) (k := 43) (c_X9_digit l E _ L K (hL) (hK) hK96 (b + j) (by omega)) (cwV 1 hts (zgV zbw mlRX9_63 imX9_digit seX9_digit iniRX9 coX9_digit) rfl rfl rfl (by decide +kernel) ⟨Nat.le_of_ble_eq_true rfl, Nat.le_of_ble_eq_true rfl⟩) (zk_lt (rfl : zk 43 = 7) (by decide)) (zd_7 E (rfl : zk 43 = 7) _) rfl rfl rfl hl.1 rfl (Nat.le_of_ble_eq_true rfl) dX9_areTries_9 ⟨Nat.zero_le _, Nat.zero_le _⟩ (fun r1 G1 H locs hw1 hP hS => ?_)
        obtain ⟨hr1, rfl⟩ := hw1
        have hd1 := dn_e (hdg (b + j) (by omega) (by omega))
        have hr1 : nI (dn L (b + j)) = _ := hd1.1.symm.trans hr1
        have hd9 := hd1.2
        subst hr1
        refine lv_iconst (v := (3 : Int32)) hx hb dX9_areTries_12 (by decide) ?_
        refine z_N_le hx hb (a := dn L (b + j)) (b := 3) (tgt := 18) dX9_areTries_13 rfl rfl (by omega) (by omega) (by decide) (fun c_13 => ?_) (fun c_13 => ?_)
        · skip
          refine lv_iinc (v := (nI (b + j + 1))) (lv' := [(3, .int (nI (b + j + 1))), (0, .ref (E.1 43)), (1, .int (nI b)), (2, .int (nI e))]) hx hb dX9_areTries_18 hl (k := 3) rfl (z_inc (by decide)) (by decide) rfl (fun ls hl => ?_)
          refine lv_goto (tgt := 2) hx hb dX9_areTries_21 (by decide) ?_
          exact ih_2 (j + 1) _ _ _ (by first | assumption | omega) (by exact s_fst_no hf (fun q => absurd (of_decide_eq_true q) (by omega))) hP hS (lv_sub hl [1, 2, 3, 0] rfl) (by omega)
        · skip
          refine lv_iconst (v := (0 : Int32)) hx hb dX9_areTries_16 (by decide) ?_
          subst hQ_
          exact z_zret C0 hP hS (v := (0 : Int32)) (by decide) (by exact Or.inr ⟨rfl, rfl, fun q => by have e9 := s_fst_yes (n := e - b) hf (decide_eq_true (show 3 < dn L (b + j) by omega)) (by omega); omega⟩) dX9_areTries_17
  exact cut_2 (_ + 1) 0 _ _ _ (by first | assumption | omega) (by rfl) hP hS (lv_sub hl [1, 2, 3, 0] rfl) (Nat.lt_succ_self _)
theorem mlRX9_60 : Cond.methodLink RX9 60 yX9_letterAt ∈ zU := zU_m 362 (by decide +kernel) rfl
theorem coX9_letterAt : Cond.code yX9_letterAt cX9_letterAt 2 (some .int) ∈ zU := zU_m 365 (by decide +kernel) rfl
theorem imX9_letterAt : Cond.instanceMethod yX9_letterAt ∈ zU := zU_m 364 (by decide +kernel) rfl
theorem seX9_letterAt : Cond.selects RX9 yX9_letterAt yX9_letterAt ∈ zU := zU_m 6 (by decide +kernel) rfl
theorem mlRX9_66 : Cond.methodLink RX9 66 yX9_areTries ∈ zU := zU_m 366 (by decide +kernel) rfl
theorem coX9_areTries : Cond.code yX9_areTries cX9_areTries 4 (some .boolean) ∈ zU := zU_m 369 (by decide +kernel) rfl
theorem imX9_areTries : Cond.instanceMethod yX9_areTries ∈ zU := zU_m 368 (by decide +kernel) rfl
theorem seX9_areTries : Cond.selects RX9 yX9_areTries yX9_areTries ∈ zU := zU_m 7 (by decide +kernel) rfl
set_option maxHeartbeats 4000000 in
set_option maxRecDepth 100000 in
theorem c_X9_isAsItMustBe (l : Launch) (E : zE) (G : zG) (L : Nat → Int32) (K : Nat) (hL : G 44 = L) (hK : G 43 0 = nI K) (hK96 : K ≤ 96) (s e n na : Nat) (hg : gram L s e) (heK : e < K) (hn : n ≤ 10) (hna : na ≤ 5) : zMi l yX9_isAsItMustBe wsX9_isAsItMustBe ({ frames := 2, cells := 0, slots := 0, locals := 44 } : Room) E G [.ref (E.1 43), .int (nI s), .int (nI e), .int (nI n), .int (nI na)] (fun r1 G1 => (1 = r1 ∧ G = G1 ∧ d_ok L s e n na = true) ∨ (0 = r1 ∧ G = G1 ∧ ¬ d_ok L s e n na = true)) := by
  refine zOf (cc := cX9_isAsItMustBe) (nL := 7) (ret := (some .boolean)) RX9 (by decide) rfl rfl (Nat.le_of_ble_eq_true rfl) ?_
  intro p_ e_ s_ m_ a_ b_ me_ c_ ls C0 hP hS hl
  have hx := C0.1
  have hb := C0.2.1
  have hts := C0.2.2.2.2.1
  have hD : zD E (zA E s_.heap.size) := C0.2.2.2.2.2.2.2.2
  have hA : ∀ q : Nat, s_.heap.size ≤ q → zA E s_.heap.size q := fun q h => Or.inr h
  have ge := gram_e hg
  have hse := hg.2.1
  have gl : 2 ≤ c_least (L s) := by rcases c_heads hg.1 with q | q | q | q | q <;> rw [q] <;> decide
  refine z_gen (fun Q_ hQ_ => ?_)
  have hl : lv_has ls 7 [(0, .ref (E.1 43)), (1, .int (nI s)), (2, .int (nI e)), (3, .int (nI n)), (4, .int (nI na))] := hl
  refine lv_aload_n hx hb dX9_isAsItMustBe_0 rfl (lv_at hl 0 rfl) ?_
  refine lv_iload_n hx hb dX9_isAsItMustBe_1 rfl (lv_at hl 1 rfl) ?_
  refine lv_iconst (v := (1 : Int32)) hx hb dX9_isAsItMustBe_2 (by decide) ?_
  refine z_iadd hx hb (a := s) (b := 1) (n := s + 1) dX9_isAsItMustBe_3 rfl rfl rfl ?_
  refine z_Vi C0 hP hD hA hS (As := [.int (nI (s + 1))]) (rest := []) (k := 43) (c_X9_digit l E _ L K (hL) (hK) hK96 (s + 1) (by omega)) (cwV 1 hts (zgV zbw mlRX9_63 imX9_digit seX9_digit iniRX9 coX9_digit) rfl rfl rfl (by decide +kernel) ⟨Nat.le_of_ble_eq_true rfl, Nat.le_of_ble_eq_true rfl⟩) (zk_lt (rfl : zk 43 = 7) (by decide)) (zd_7 E (rfl : zk 43 = 7) _) rfl rfl rfl hl.1 rfl (Nat.le_of_ble_eq_true rfl) dX9_isAsItMustBe_4 ⟨Nat.zero_le _, Nat.zero_le _⟩ (fun r1 G1 H locs hw1 hP hS => ?_)
  obtain ⟨hr1, rfl⟩ := hw1
  subst hr1
  refine lv_istore (lv' := [(5, .int (L (s + 1) - 48)), (0, .ref (E.1 43)), (1, .int (nI s)), (2, .int (nI e)), (3, .int (nI n)), (4, .int (nI na))]) hx hb dX9_isAsItMustBe_7 hl (by decide) rfl (fun ls hl => ?_)
  refine lv_aload_n hx hb dX9_isAsItMustBe_9 rfl (lv_at hl 1 rfl) ?_
  refine lv_iload_n hx hb dX9_isAsItMustBe_10 rfl (lv_at hl 2 rfl) ?_
  refine lv_iconst (v := (2 : Int32)) hx hb dX9_isAsItMustBe_11 (by decide) ?_
  refine z_iadd hx hb (a := s) (b := 2) (n := s + 2) dX9_isAsItMustBe_12 rfl rfl rfl ?_
  refine z_Vi C0 hP hD hA hS (As := [.int (nI (s + 2))]) (rest := []) (k := 43) (c_X9_digit l E _ L K (hL) (hK) hK96 (s + 2) (by omega)) (cwV 1 hts (zgV zbw mlRX9_63 imX9_digit seX9_digit iniRX9 coX9_digit) rfl rfl rfl (by decide +kernel) ⟨Nat.le_of_ble_eq_true rfl, Nat.le_of_ble_eq_true rfl⟩) (zk_lt (rfl : zk 43 = 7) (by decide)) (zd_7 E (rfl : zk 43 = 7) _) rfl rfl rfl hl.1 rfl (Nat.le_of_ble_eq_true rfl) dX9_isAsItMustBe_13 ⟨Nat.zero_le _, Nat.zero_le _⟩ (fun r2 G2 H locs hw2 hP hS => ?_)
  obtain ⟨hr2, rfl⟩ := hw2
  subst hr2
  refine lv_istore (lv' := [(6, .int (L (s + 2) - 48)), (5, .int (L (s + 1) - 48)), (0, .ref (E.1 43)), (1, .int (nI s)), (2, .int (nI e)), (3, .int (nI n)), (4, .int (nI na))]) hx hb dX9_isAsItMustBe_16 hl (by decide) rfl (fun ls hl => ?_)
  refine lv_aload_n hx hb dX9_isAsItMustBe_18 rfl (lv_at hl 2 rfl) ?_
  refine lv_iload_n hx hb dX9_isAsItMustBe_19 rfl (lv_at hl 3 rfl) ?_
  refine z_Vi C0 hP hD hA hS (As := [.int (nI s)]) (rest := []) (k := 43) (c_X9_letterAt l E _ L K (hL) (hK) hK96 s (by omega)) (cwV 1 hts (zgV zbw mlRX9_60 imX9_letterAt seX9_letterAt iniRX9 coX9_letterAt) rfl rfl rfl (by decide +kernel) ⟨Nat.le_of_ble_eq_true rfl, Nat.le_of_ble_eq_true rfl⟩) (zk_lt (rfl : zk 43 = 7) (by decide)) (zd_7 E (rfl : zk 43 = 7) _) rfl rfl rfl hl.1 rfl (Nat.le_of_ble_eq_true rfl) dX9_isAsItMustBe_20 ⟨Nat.zero_le _, Nat.zero_le _⟩ (fun r3 G3 H locs hw3 hP hS => ?_)
  obtain ⟨hr3, rfl⟩ := hw3
  subst hr3
  by_cases e97_23 : (L s) = (97 : Int32)
  · skip
    refine lv_lookup (tgt := 87) (off := 64) hx hb dX9_isAsItMustBe_23 (by decide) (by rw [e97_23]; rfl) (by decide) ?_
    have gd := gram_d hg (z_hne e97_23 (by decide))
    have g1 := gram_97 hg e97_23
    have hd5 := dn_e (gd (s + 1) (by omega) (by omega))
    rw [hd5.1] at hl
    have hd6 := dn_e (gd (s + 2) (by omega) (by omega))
    rw [hd6.1] at hl
    refine lv_iload hx hb dX9_isAsItMustBe_87 (lv_at hl 6 rfl) ?_
    refine lv_iconst (v := (5 : Int32)) hx hb dX9_isAsItMustBe_89 (by decide) ?_
    refine z_N_ge hx hb (a := na) (b := 5) (tgt := 97) dX9_isAsItMustBe_90 rfl rfl (by omega) (by omega) (by decide) (fun c_90 => ?_) (fun c_90 => ?_)
    · skip
      refine lv_iconst (v := (0 : Int32)) hx hb dX9_isAsItMustBe_97 (by decide) ?_
      subst hQ_
      exact z_zret C0 hP hS (v := (0 : Int32)) (by decide) (by exact Or.inr ⟨rfl, rfl, by rw [d_ok_97 e97_23]; exact fun q => by have q2 := of_decide_eq_true q; omega⟩) dX9_isAsItMustBe_98
    · skip
      refine lv_iconst (v := (1 : Int32)) hx hb dX9_isAsItMustBe_93 (by decide) ?_
      refine lv_goto (tgt := 98) hx hb dX9_isAsItMustBe_94 (by decide) ?_
      subst hQ_
      exact z_zret C0 hP hS (v := (1 : Int32)) (by decide) (by exact Or.inl ⟨rfl, rfl, by rw [d_ok_97 e97_23]; exact decide_eq_true (by omega)⟩) dX9_isAsItMustBe_98
  · skip
    by_cases e112_23 : (L s) = (112 : Int32)
    · skip
      refine lv_lookup (tgt := 129) (off := 106) hx hb dX9_isAsItMustBe_23 (by decide) (by rw [e112_23]; rfl) (by decide) ?_
      have gd := gram_d hg (z_hne e112_23 (by decide))
      have g1 := gram_112 hg e112_23
      have hd5 := dn_e (gd (s + 1) (by omega) (by omega))
      rw [hd5.1] at hl
      have hd6 := dn_e (gd (s + 2) (by omega) (by omega))
      rw [hd6.1] at hl
      refine lv_iload hx hb dX9_isAsItMustBe_129 (lv_at hl 1 rfl) ?_
      refine lv_iload hx hb dX9_isAsItMustBe_131 (lv_at hl 6 rfl) ?_
      refine z_N_ge hx hb (a := dn L (s + 1)) (b := na) (tgt := 151) dX9_isAsItMustBe_133 rfl rfl (by omega) (by omega) (by decide) (fun c_133 => ?_) (fun c_133 => ?_)
      · skip
        refine lv_iconst (v := (0 : Int32)) hx hb dX9_isAsItMustBe_151 (by decide) ?_
        subst hQ_
        exact z_zret C0 hP hS (v := (0 : Int32)) (by decide) (by exact Or.inr ⟨rfl, rfl, by rw [d_ok_112 e112_23]; exact fun q => by have q2 := of_decide_eq_true q; first | omega | (have q3 := q2.2; rw [show e - s - 2 = e - (s + 2) by omega] at q3; exact har q3)⟩) dX9_isAsItMustBe_152
      · skip
        refine lv_aload_n hx hb dX9_isAsItMustBe_136 rfl (lv_at hl 2 rfl) ?_
        refine lv_iload_n hx hb dX9_isAsItMustBe_137 rfl (lv_at hl 3 rfl) ?_
        refine lv_iconst (v := (2 : Int32)) hx hb dX9_isAsItMustBe_138 (by decide) ?_
        refine z_iadd hx hb (a := s) (b := 2) (n := s + 2) dX9_isAsItMustBe_139 rfl rfl rfl ?_
        refine lv_iload_n hx hb dX9_isAsItMustBe_140 rfl (lv_at hl 4 rfl) ?_
        refine z_Vi C0 hP hD hA hS (As := [.int (nI (s + 2)), .int (nI e)]) (rest := []) (k := 43) (c_X9_areTries l E _ L K (hL) (hK) hK96 (s + 2) e (by omega) (by omega) (fun p h1 h2 => gd p (by omega) h2)) (cwV 2 hts (zgV zbw mlRX9_66 imX9_areTries seX9_areTries iniRX9 coX9_areTries) rfl rfl rfl (by decide +kernel) ⟨Nat.le_of_ble_eq_true rfl, Nat.le_of_ble_eq_true rfl⟩) (zk_lt (rfl : zk 43 = 7) (by decide)) (zd_7 E (rfl : zk 43 = 7) _) rfl rfl rfl hl.1 rfl (Nat.le_of_ble_eq_true rfl) dX9_isAsItMustBe_141 ⟨Nat.zero_le _, Nat.zero_le _⟩ (fun r4 G4 H locs hw4 hP hS => ?_)
        rcases hw4 with ⟨rfl, rfl, har⟩ | ⟨rfl, rfl, har⟩
        · skip
          refine lv_if_eq (tgt := 151) hx hb dX9_isAsItMustBe_144 (by decide) (fun h_ => absurd h_ (by decide)) (fun _ => ?_)
          refine lv_iconst (v := (1 : Int32)) hx hb dX9_isAsItMustBe_147 (by decide) ?_
          refine lv_goto (tgt := 152) hx hb dX9_isAsItMustBe_148 (by decide) ?_
          subst hQ_
          exact z_zret C0 hP hS (v := (1 : Int32)) (by decide) (by exact Or.inl ⟨rfl, rfl, by rw [d_ok_112 e112_23]; exact decide_eq_true ⟨by omega, by rw [show e - s - 2 = e - (s + 2) by omega]; exact har⟩⟩) dX9_isAsItMustBe_152
        · skip
          refine lv_if_eq (tgt := 151) hx hb dX9_isAsItMustBe_144 (by decide) (fun _ => ?_) (fun h_ => absurd (by decide) h_)
          refine lv_iconst (v := (0 : Int32)) hx hb dX9_isAsItMustBe_151 (by decide) ?_
          subst hQ_
          exact z_zret C0 hP hS (v := (0 : Int32)) (by decide) (by exact Or.inr ⟨rfl, rfl, by rw [d_ok_112 e112_23]; exact fun q => by have q2 := of_decide_eq_true q; first | omega | (have q3 := q2.2; rw [show e - s - 2 = e - (s + 2) by omega] at q3; exact har q3)⟩) dX9_isAsItMustBe_152
    · skip
      by_cases e115_23 : (L s) = (115 : Int32)
      · skip
        refine lv_lookup (tgt := 64) (off := 41) hx hb dX9_isAsItMustBe_23 (by decide) (by rw [e115_23]; rfl) (by decide) ?_
        obtain ⟨g1, g2, g3, g4⟩ := gram_115 hg e115_23
        have hd6 := dn_e (g3)
        rw [hd6.1] at hl
        refine lv_aload_n hx hb dX9_isAsItMustBe_64 rfl (lv_at hl 2 rfl) ?_
        refine lv_iload_n hx hb dX9_isAsItMustBe_65 rfl (lv_at hl 3 rfl) ?_
        refine lv_iconst (v := (3 : Int32)) hx hb dX9_isAsItMustBe_66 (by decide) ?_
        refine z_iadd hx hb (a := s) (b := 3) (n := s + 3) dX9_isAsItMustBe_67 rfl rfl rfl ?_
        refine z_Vi C0 hP hD hA hS (As := [.int (nI (s + 3))]) (rest := []) (k := 43) (c_X9_digit l E _ L K (hL) (hK) hK96 (s + 3) (by omega)) (cwV 1 hts (zgV zbw mlRX9_63 imX9_digit seX9_digit iniRX9 coX9_digit) rfl rfl rfl (by decide +kernel) ⟨Nat.le_of_ble_eq_true rfl, Nat.le_of_ble_eq_true rfl⟩) (zk_lt (rfl : zk 43 = 7) (by decide)) (zd_7 E (rfl : zk 43 = 7) _) rfl rfl rfl hl.1 rfl (Nat.le_of_ble_eq_true rfl) dX9_isAsItMustBe_68 ⟨Nat.zero_le _, Nat.zero_le _⟩ (fun r5 G5 H locs hw5 hP hS => ?_)
        obtain ⟨hr5, rfl⟩ := hw5
        have hd5 := dn_e (g4)
        have hr5 : nI (dn L (s + 3)) = _ := hd5.1.symm.trans hr5
        have hd9 := hd5.2
        subst hr5
        refine lv_iconst (v := (1 : Int32)) hx hb dX9_isAsItMustBe_71 (by decide) ?_
        refine z_N_lt hx hb (a := dn L (s + 3)) (b := 1) (tgt := 85) dX9_isAsItMustBe_72 rfl rfl (by omega) (by omega) (by decide) (fun c_72 => ?_) (fun c_72 => ?_)
        · skip
          refine lv_iconst (v := (0 : Int32)) hx hb dX9_isAsItMustBe_85 (by decide) ?_
          subst hQ_
          exact z_zret C0 hP hS (v := (0 : Int32)) (by decide) (by exact Or.inr ⟨rfl, rfl, by rw [d_ok_115 e115_23]; exact fun q => by have q2 := of_decide_eq_true q; omega⟩) dX9_isAsItMustBe_86
        · skip
          refine lv_iload_n hx hb dX9_isAsItMustBe_75 rfl (lv_at hl 5 rfl) ?_
          refine lv_bipush (v := (10 : Int32)) hx hb dX9_isAsItMustBe_76 (by decide) ?_
          refine z_N_ge hx hb (a := n) (b := 10) (tgt := 85) dX9_isAsItMustBe_78 rfl rfl (by omega) (by omega) (by decide) (fun c_78 => ?_) (fun c_78 => ?_)
          · skip
            refine lv_iconst (v := (0 : Int32)) hx hb dX9_isAsItMustBe_85 (by decide) ?_
            subst hQ_
            exact z_zret C0 hP hS (v := (0 : Int32)) (by decide) (by exact Or.inr ⟨rfl, rfl, by rw [d_ok_115 e115_23]; exact fun q => by have q2 := of_decide_eq_true q; omega⟩) dX9_isAsItMustBe_86
          · skip
            refine lv_iconst (v := (1 : Int32)) hx hb dX9_isAsItMustBe_81 (by decide) ?_
            refine lv_goto (tgt := 86) hx hb dX9_isAsItMustBe_82 (by decide) ?_
            subst hQ_
            exact z_zret C0 hP hS (v := (1 : Int32)) (by decide) (by exact Or.inl ⟨rfl, rfl, by rw [d_ok_115 e115_23]; exact decide_eq_true (by omega)⟩) dX9_isAsItMustBe_86
      · skip
        by_cases e116_23 : (L s) = (116 : Int32)
        · skip
          refine lv_lookup (tgt := 99) (off := 76) hx hb dX9_isAsItMustBe_23 (by decide) (by rw [e116_23]; rfl) (by decide) ?_
          have gd := gram_d hg (z_hne e116_23 (by decide))
          have g1 := gram_116 hg e116_23
          have hd5 := dn_e (gd (s + 1) (by omega) (by omega))
          rw [hd5.1] at hl
          have hd6 := dn_e (gd (s + 2) (by omega) (by omega))
          rw [hd6.1] at hl
          refine lv_iload hx hb dX9_isAsItMustBe_99 (lv_at hl 1 rfl) ?_
          refine lv_iload hx hb dX9_isAsItMustBe_101 (lv_at hl 6 rfl) ?_
          refine z_N_ge hx hb (a := dn L (s + 1)) (b := na) (tgt := 127) dX9_isAsItMustBe_103 rfl rfl (by omega) (by omega) (by decide) (fun c_103 => ?_) (fun c_103 => ?_)
          · skip
            refine lv_iconst (v := (0 : Int32)) hx hb dX9_isAsItMustBe_127 (by decide) ?_
            subst hQ_
            exact z_zret C0 hP hS (v := (0 : Int32)) (by decide) (by exact Or.inr ⟨rfl, rfl, by rw [d_ok_116 e116_23]; exact fun q => by have q2 := of_decide_eq_true q; omega⟩) dX9_isAsItMustBe_128
          · skip
            refine lv_iload hx hb dX9_isAsItMustBe_106 (lv_at hl 0 rfl) ?_
            refine lv_iload_n hx hb dX9_isAsItMustBe_108 rfl (lv_at hl 5 rfl) ?_
            refine z_N_ge hx hb (a := dn L (s + 2)) (b := n) (tgt := 127) dX9_isAsItMustBe_109 rfl rfl (by omega) (by omega) (by decide) (fun c_109 => ?_) (fun c_109 => ?_)
            · skip
              refine lv_iconst (v := (0 : Int32)) hx hb dX9_isAsItMustBe_127 (by decide) ?_
              subst hQ_
              exact z_zret C0 hP hS (v := (0 : Int32)) (by decide) (by exact Or.inr ⟨rfl, rfl, by rw [d_ok_116 e116_23]; exact fun q => by have q2 := of_decide_eq_true q; omega⟩) dX9_isAsItMustBe_128
            · skip
              refine lv_aload_n hx hb dX9_isAsItMustBe_112 rfl (lv_at hl 2 rfl) ?_
              refine lv_iload_n hx hb dX9_isAsItMustBe_113 rfl (lv_at hl 3 rfl) ?_
              refine lv_iconst (v := (3 : Int32)) hx hb dX9_isAsItMustBe_114 (by decide) ?_
              refine z_iadd hx hb (a := s) (b := 3) (n := s + 3) dX9_isAsItMustBe_115 rfl rfl rfl ?_
              refine z_Vi C0 hP hD hA hS (As := [.int (nI (s + 3))]) (rest := []) (k := 43) (c_X9_digit l E _ L K (hL) (hK) hK96 (s + 3) (by omega)) (cwV 1 hts (zgV zbw mlRX9_63 imX9_digit seX9_digit iniRX9 coX9_digit) rfl rfl rfl (by decide +kernel) ⟨Nat.le_of_ble_eq_true rfl, Nat.le_of_ble_eq_true rfl⟩) (zk_lt (rfl : zk 43 = 7) (by decide)) (zd_7 E (rfl : zk 43 = 7) _) rfl rfl rfl hl.1 rfl (Nat.le_of_ble_eq_true rfl) dX9_isAsItMustBe_116 ⟨Nat.zero_le _, Nat.zero_le _⟩ (fun r6 G6 H locs hw6 hP hS => ?_)
              obtain ⟨hr6, rfl⟩ := hw6
              have hd6 := dn_e (gd (s + 3) (by omega) (by omega))
              have hr6 : nI (dn L (s + 3)) = _ := hd6.1.symm.trans hr6
              have hd9 := hd6.2
              subst hr6
              refine lv_iconst (v := (3 : Int32)) hx hb dX9_isAsItMustBe_119 (by decide) ?_
              refine z_N_gt hx hb (a := dn L (s + 3)) (b := 3) (tgt := 127) dX9_isAsItMustBe_120 rfl rfl (by omega) (by omega) (by decide) (fun c_120 => ?_) (fun c_120 => ?_)
              · skip
                refine lv_iconst (v := (0 : Int32)) hx hb dX9_isAsItMustBe_127 (by decide) ?_
                subst hQ_
                exact z_zret C0 hP hS (v := (0 : Int32)) (by decide) (by exact Or.inr ⟨rfl, rfl, by rw [d_ok_116 e116_23]; exact fun q => by have q2 := of_decide_eq_true q; omega⟩) dX9_isAsItMustBe_128
              · skip
                refine lv_iconst (v := (1 : Int32)) hx hb dX9_isAsItMustBe_123 (by decide) ?_
                refine lv_goto (tgt := 128) hx hb dX9_isAsItMustBe_124 (by decide) ?_
                subst hQ_
                exact z_zret C0 hP hS (v := (1 : Int32)) (by decide) (by exact Or.inl ⟨rfl, rfl, by rw [d_ok_116 e116_23]; exact decide_eq_true (by omega)⟩) dX9_isAsItMustBe_128
        · skip
          refine lv_lookup (tgt := 153) (off := 130) hx hb dX9_isAsItMustBe_23 (by decide) ((lv_osw e97_23 rfl).trans ((lv_osw e112_23 rfl).trans ((lv_osw e115_23 rfl).trans ((lv_osw e116_23 rfl).trans (rfl))))) (by decide) ?_
          have gd := gram_d hg (e115_23)
          have g1 := gram_120 hg e97_23 e112_23 e115_23 e116_23
          have hd5 := dn_e (gd (s + 1) (by omega) (by omega))
          rw [hd5.1] at hl
          have hd6 := dn_e (gd (s + 2) (by omega) (by omega))
          rw [hd6.1] at hl
          refine lv_iload hx hb dX9_isAsItMustBe_153 (lv_at hl 1 rfl) ?_
          refine lv_iload_n hx hb dX9_isAsItMustBe_155 rfl (lv_at hl 5 rfl) ?_
          refine z_N_ge hx hb (a := dn L (s + 1)) (b := n) (tgt := 176) dX9_isAsItMustBe_156 rfl rfl (by omega) (by omega) (by decide) (fun c_156 => ?_) (fun c_156 => ?_)
          · skip
            refine lv_iconst (v := (0 : Int32)) hx hb dX9_isAsItMustBe_176 (by decide) ?_
            subst hQ_
            exact z_zret C0 hP hS (v := (0 : Int32)) (by decide) (by exact Or.inr ⟨rfl, rfl, by rw [d_ok_x e97_23 e112_23 e115_23 e116_23]; exact fun q => by have q2 := of_decide_eq_true q; omega⟩) dX9_isAsItMustBe_177
          · skip
            refine lv_iload hx hb dX9_isAsItMustBe_159 (lv_at hl 0 rfl) ?_
            refine lv_iload_n hx hb dX9_isAsItMustBe_161 rfl (lv_at hl 5 rfl) ?_
            refine z_N_ge hx hb (a := dn L (s + 2)) (b := n) (tgt := 176) dX9_isAsItMustBe_162 rfl rfl (by omega) (by omega) (by decide) (fun c_162 => ?_) (fun c_162 => ?_)
            · skip
              refine lv_iconst (v := (0 : Int32)) hx hb dX9_isAsItMustBe_176 (by decide) ?_
              subst hQ_
              exact z_zret C0 hP hS (v := (0 : Int32)) (by decide) (by exact Or.inr ⟨rfl, rfl, by rw [d_ok_x e97_23 e112_23 e115_23 e116_23]; exact fun q => by have q2 := of_decide_eq_true q; omega⟩) dX9_isAsItMustBe_177
            · skip
              refine lv_iload hx hb dX9_isAsItMustBe_165 (lv_at hl 1 rfl) ?_
              refine lv_iload hx hb dX9_isAsItMustBe_167 (lv_at hl 0 rfl) ?_
              refine z_N_eq hx hb (a := dn L (s + 1)) (b := dn L (s + 2)) (tgt := 176) dX9_isAsItMustBe_169 rfl rfl (by omega) (by omega) (by decide) (fun c_169 => ?_) (fun c_169 => ?_)
              · skip
                refine lv_iconst (v := (0 : Int32)) hx hb dX9_isAsItMustBe_176 (by decide) ?_
                subst hQ_
                exact z_zret C0 hP hS (v := (0 : Int32)) (by decide) (by exact Or.inr ⟨rfl, rfl, by rw [d_ok_x e97_23 e112_23 e115_23 e116_23]; exact fun q => by have q2 := of_decide_eq_true q; omega⟩) dX9_isAsItMustBe_177
              · skip
                refine lv_iconst (v := (1 : Int32)) hx hb dX9_isAsItMustBe_172 (by decide) ?_
                refine lv_goto (tgt := 177) hx hb dX9_isAsItMustBe_173 (by decide) ?_
                subst hQ_
                exact z_zret C0 hP hS (v := (1 : Int32)) (by decide) (by exact Or.inl ⟨rfl, rfl, by rw [d_ok_x e97_23 e112_23 e115_23 e116_23]; exact decide_eq_true (by omega)⟩) dX9_isAsItMustBe_177
