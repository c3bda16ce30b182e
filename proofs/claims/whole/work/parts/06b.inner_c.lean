/-! laid by wip/whole/vcg.py -/
set_option maxHeartbeats 4000000 in
set_option maxRecDepth 100000 in
theorem c_X1_exchange_ (l : Launch) (E : zE) (G : zG) (k i j : Nat) (hk : zIs k tArr10) (hi : i < 10) (hj : j < 10) : zMv l yX1_exchange_ wsX1_exchange_ ({ frames := 0, cells := 0, slots := 0, locals := 0 } : Room) E G [.ref (E.1 k), .int (nI i), .int (nI j)] (fun G1 => g1 G k (s_sw (G k) i j) = G1) := by
  refine zOf (cc := cX1_exchange_) (nL := 4) (ret := none) RX1 (by decide) rfl rfl (Nat.le_of_ble_eq_true rfl) ?_
  intro p_ e_ s_ m_ a_ b_ me_ c_ ls C0 hP hS hl
  have hx := C0.1
  have hb := C0.2.1
  have hts := C0.2.2.2.2.1
  have hD : zD E (zA E s_.heap.size) := C0.2.2.2.2.2.2.2.2
  have hA : ∀ q : Nat, s_.heap.size ≤ q → zA E s_.heap.size q := fun q h => Or.inr h
  refine z_gen (fun Q_ hQ_ => ?_)
  have hl : lv_has ls 4 [(0, .ref (E.1 k)), (1, .int (nI i)), (2, .int (nI j))] := hl
  refine lv_aload_n hx hb dX1_exchange__0 rfl (lv_at hl 0 rfl) ?_
  refine lv_iload_n hx hb dX1_exchange__1 rfl (lv_at hl 1 rfl) ?_
  refine z_iald C0 hP (k := k) (i := i) (v := (G k i)) (hk (0, 11, 10) (by decide)).1 (Nat.lt_of_lt_of_eq (show i < 10 by omega) (hk (0, 11, 10) (by decide)).2.symm) rfl dX1_exchange__2 (rfl) ?_
  refine lv_istore_n (lv' := [(3, .int (G k i)), (0, .ref (E.1 k)), (1, .int (nI i)), (2, .int (nI j))]) hx hb dX1_exchange__3 rfl hl (by decide) rfl (fun ls hl => ?_)
  refine lv_aload_n hx hb dX1_exchange__4 rfl (lv_at hl 1 rfl) ?_
  refine lv_iload_n hx hb dX1_exchange__5 rfl (lv_at hl 2 rfl) ?_
  refine lv_aload_n hx hb dX1_exchange__6 rfl (lv_at hl 1 rfl) ?_
  refine lv_iload_n hx hb dX1_exchange__7 rfl (lv_at hl 3 rfl) ?_
  refine z_iald C0 hP (k := k) (i := j) (v := (G k j)) (hk (0, 11, 10) (by decide)).1 (Nat.lt_of_lt_of_eq (show j < 10 by omega) (hk (0, 11, 10) (by decide)).2.symm) rfl dX1_exchange__8 (rfl) ?_
  refine z_iast C0 hP hD hS (k := k) (i := i) (v := (G k j)) (F := G k) (rfl) (hk (0, 11, 10) (by decide)).1 (Nat.lt_of_lt_of_eq (show i < 10 by omega) (hk (0, 11, 10) (by decide)).2.symm) rfl dX1_exchange__9 (fun H locs hP hS => ?_)
  refine lv_aload_n hx hb dX1_exchange__10 rfl (lv_at hl 1 rfl) ?_
  refine lv_iload_n hx hb dX1_exchange__11 rfl (lv_at hl 3 rfl) ?_
  refine lv_iload_n hx hb dX1_exchange__12 rfl (lv_at hl 0 rfl) ?_
  refine z_iast C0 hP hD hS (k := k) (i := j) (v := (G k i)) (F := (upd (G k) i (G k j))) (g1_s _ _ _) (hk (0, 11, 10) (by decide)).1 (Nat.lt_of_lt_of_eq (show j < 10 by omega) (hk (0, 11, 10) (by decide)).2.symm) rfl dX1_exchange__13 (fun H locs hP hS => ?_)
  have hP := zP_eq (g1_t _ _ _ _ : _ = (g1 G k (upd (upd (G k) i (G k j)) j (G k i)))) hP
  subst hQ_
  exact z_vret C0 hP hS (by exact rfl) dX1_exchange__14
theorem mlRX1_31 : Cond.methodLink RX1 31 yX1_has ∈ zU := zU_m 402 (by decide +kernel) rfl
theorem coX1_has : Cond.code yX1_has cX1_has 2 (some .boolean) ∈ zU := zU_m 405 (by decide +kernel) rfl
theorem imX1_has : Cond.instanceMethod yX1_has ∈ zU := zU_m 403 (by decide +kernel) rfl
theorem seX1_has : Cond.selects RX1 yX1_has yX1_has ∈ zU := zU_m 404 (by decide +kernel) rfl
set_option maxHeartbeats 4000000 in
set_option maxRecDepth 100000 in
theorem c_X1_become_ (l : Launch) (E : zE) (G : zG) (c n i : Nat) (kd fg : Int32) (hc : zIs c tCou) (hn : G c 0 = nI n) (hn10 : n ≤ 10) (hi : i < n) : zMv l yX1_become_ wsX1_become_ ({ frames := 1, cells := 0, slots := 0, locals := 21 } : Room) E G [.ref (E.1 c), .int (nI i), .int kd, .int fg] (fun G1 => g1 (g1 G (c + 1) (upd (G (c + 1)) i kd)) (c + 2) (upd (G (c + 2)) i fg) = G1) := by
  refine zOf (cc := cX1_become_) (nL := 4) (ret := none) RX1 (by decide) rfl rfl (Nat.le_of_ble_eq_true rfl) ?_
  intro p_ e_ s_ m_ a_ b_ me_ c_ ls C0 hP hS hl
  have hx := C0.1
  have hb := C0.2.1
  have hts := C0.2.2.2.2.1
  have hD : zD E (zA E s_.heap.size) := C0.2.2.2.2.2.2.2.2
  have hA : ∀ q : Nat, s_.heap.size ≤ q → zA E s_.heap.size q := fun q h => Or.inr h
  refine z_gen (fun Q_ hQ_ => ?_)
  have hl : lv_has ls 4 [(0, .ref (E.1 c)), (1, .int (nI i)), (2, .int kd), (3, .int fg)] := hl
  refine lv_aload_n hx hb dX1_become__0 rfl (lv_at hl 0 rfl) ?_
  refine lv_iload_n hx hb dX1_become__1 rfl (lv_at hl 1 rfl) ?_
  refine z_Vi C0 hP hD hA hS (As := [.int (nI i)]) (rest := []) (k := c) (c_X1_hasN l E _ c n i hc (hn) (by omega) (by omega)) (cwV 1 hts (zgV zbw mlRX1_31 imX1_has seX1_has iniRX1 coX1_has) rfl rfl rfl (by decide +kernel) ⟨Nat.le_of_ble_eq_true rfl, Nat.le_of_ble_eq_true rfl⟩) (zk_lt (hc (0, 1, 4) (by decide)).1 (by decide)) (zd_1 E (hc (0, 1, 4) (by decide)).1 _) rfl rfl rfl hl.1 rfl (Nat.le_of_ble_eq_true rfl) dX1_become__2 ⟨Nat.zero_le _, Nat.zero_le _⟩ (fun r1 G1 H locs hw1 hP hS => ?_)
  obtain ⟨rfl, rfl⟩ := hw1
  refine lv_if_eq (tgt := 22) hx hb dX1_become__5 (by decide) (fun h_ => absurd h_ (by decide)) (fun _ => ?_)
  refine lv_aload_n hx hb dX1_become__8 rfl (lv_at hl 0 rfl) ?_
  refine z_get C0 hP (C := RX1) (T := TX1) (N := 4) (ci := 1) (index := 15) (k := c) (ref := "WetSuitPedalsShoes$Course") (zk_lt (hc (0, 1, 4) (by decide)).1 (by decide)) (zd_1 E (hc (0, 1, 4) (by decide)).1 _) rfl (zmi inU_1) 1 (by decide) (zm flRX1_15) rfl (v := .ref (E.1 (c + 1))) (rfl) dX1_become__9 ?_
  refine lv_iload_n hx hb dX1_become__12 rfl (lv_at hl 1 rfl) ?_
  refine lv_iload_n hx hb dX1_become__13 rfl (lv_at hl 2 rfl) ?_
  refine z_iast C0 hP hD hS (k := (c + 1)) (i := i) (v := kd) (F := G (c + 1)) (rfl) (hc (1, 11, 10) (by decide)).1 (Nat.lt_of_lt_of_eq (show i < 10 by omega) (hc (1, 11, 10) (by decide)).2.symm) rfl dX1_become__14 (fun H locs hP hS => ?_)
  refine lv_aload_n hx hb dX1_become__15 rfl (lv_at hl 0 rfl) ?_
  refine z_get C0 hP (C := RX1) (T := TX1) (N := 4) (ci := 1) (index := 19) (k := c) (ref := "WetSuitPedalsShoes$Course") (zk_lt (hc (0, 1, 4) (by decide)).1 (by decide)) (zd_1 E (hc (0, 1, 4) (by decide)).1 _) rfl (zmi inU_1) 2 (by decide) (zm flRX1_19) rfl (v := .ref (E.1 (c + 2))) (rfl) dX1_become__16 ?_
  refine lv_iload_n hx hb dX1_become__19 rfl (lv_at hl 1 rfl) ?_
  refine lv_iload_n hx hb dX1_become__20 rfl (lv_at hl 3 rfl) ?_
  refine z_iast C0 hP hD hS (k := (c + 2)) (i := i) (v := fg) (F := G (c + 2)) (g1_n (by omega)) (hc (2, 11, 10) (by decide)).1 (Nat.lt_of_lt_of_eq (show i < 10 by omega) (hc (2, 11, 10) (by decide)).2.symm) rfl dX1_become__21 (fun H locs hP hS => ?_)
  subst hQ_
  exact z_vret C0 hP hS (by exact rfl) dX1_become__22
theorem mlRX1_35 : Cond.methodLink RX1 35 yX1_exchange_ ∈ zU := zU_m 406 (by decide +kernel) rfl
theorem coX1_exchange_ : Cond.code yX1_exchange_ cX1_exchange_ 4 none ∈ zU := zU_m 408 (by decide +kernel) rfl
theorem stX1_exchange_ : Cond.static yX1_exchange_ ∈ zU := zU_m 407 (by decide +kernel) rfl
set_option maxHeartbeats 4000000 in
set_option maxRecDepth 100000 in
theorem c_X1_exchange (l : Launch) (E : zE) (G : zG) (c n i j : Nat) (hc : zIs c tCou) (hn : G c 0 = nI n) (hn10 : n ≤ 10) (hi : i < n) (hj : j < n) : zMv l yX1_exchange wsX1_exchange ({ frames := 1, cells := 0, slots := 0, locals := 23 } : Room) E G [.ref (E.1 c), .int (nI i), .int (nI j)] (fun G1 => g1 (g1 (g1 G (c + 1) (s_sw (G (c + 1)) i j)) (c + 2) (s_sw (G (c + 2)) i j)) (c + 3) (s_sw (G (c + 3)) i j) = G1) := by
  refine zOf (cc := cX1_exchange) (nL := 3) (ret := none) RX1 (by decide) rfl rfl (Nat.le_of_ble_eq_true rfl) ?_
  intro p_ e_ s_ m_ a_ b_ me_ c_ ls C0 hP hS hl
  have hx := C0.1
  have hb := C0.2.1
  have hts := C0.2.2.2.2.1
  have hD : zD E (zA E s_.heap.size) := C0.2.2.2.2.2.2.2.2
  have hA : ∀ q : Nat, s_.heap.size ≤ q → zA E s_.heap.size q := fun q h => Or.inr h
  refine z_gen (fun Q_ hQ_ => ?_)
  have hl : lv_has ls 3 [(0, .ref (E.1 c)), (1, .int (nI i)), (2, .int (nI j))] := hl
  refine lv_aload_n hx hb dX1_exchange_0 rfl (lv_at hl 0 rfl) ?_
  refine lv_iload_n hx hb dX1_exchange_1 rfl (lv_at hl 1 rfl) ?_
  refine z_Vi C0 hP hD hA hS (As := [.int (nI i)]) (rest := []) (k := c) (c_X1_hasN l E _ c n i hc (hn) (by omega) (by omega)) (cwV 1 hts (zgV zbw mlRX1_31 imX1_has seX1_has iniRX1 coX1_has) rfl rfl rfl (by decide +kernel) ⟨Nat.le_of_ble_eq_true rfl, Nat.le_of_ble_eq_true rfl⟩) (zk_lt (hc (0, 1, 4) (by decide)).1 (by decide)) (zd_1 E (hc (0, 1, 4) (by decide)).1 _) rfl rfl rfl hl.1 rfl (Nat.le_of_ble_eq_true rfl) dX1_exchange_2 ⟨Nat.zero_le _, Nat.zero_le _⟩ (fun r1 G1 H locs hw1 hP hS => ?_)
  obtain ⟨rfl, rfl⟩ := hw1
  refine lv_if_eq (tgt := 43) hx hb dX1_exchange_5 (by decide) (fun h_ => absurd h_ (by decide)) (fun _ => ?_)
  refine lv_aload_n hx hb dX1_exchange_8 rfl (lv_at hl 0 rfl) ?_
  refine lv_iload_n hx hb dX1_exchange_9 rfl (lv_at hl 2 rfl) ?_
  refine z_Vi C0 hP hD hA hS (As := [.int (nI j)]) (rest := []) (k := c) (c_X1_hasN l E _ c n j hc (hn) (by omega) (by omega)) (cwV 1 hts (zgV zbw mlRX1_31 imX1_has seX1_has iniRX1 coX1_has) rfl rfl rfl (by decide +kernel) ⟨Nat.le_of_ble_eq_true rfl, Nat.le_of_ble_eq_true rfl⟩) (zk_lt (hc (0, 1, 4) (by decide)).1 (by decide)) (zd_1 E (hc (0, 1, 4) (by decide)).1 _) rfl rfl rfl hl.1 rfl (Nat.le_of_ble_eq_true rfl) dX1_exchange_10 ⟨Nat.zero_le _, Nat.zero_le _⟩ (fun r2 G2 H locs hw2 hP hS => ?_)
  obtain ⟨rfl, rfl⟩ := hw2
  refine lv_if_eq (tgt := 43) hx hb dX1_exchange_13 (by decide) (fun h_ => absurd h_ (by decide)) (fun _ => ?_)
  refine lv_aload_n hx hb dX1_exchange_16 rfl (lv_at hl 0 rfl) ?_
  refine z_get C0 hP (C := RX1) (T := TX1) (N := 4) (ci := 1) (index := 15) (k := c) (ref := "WetSuitPedalsShoes$Course") (zk_lt (hc (0, 1, 4) (by decide)).1 (by decide)) (zd_1 E (hc (0, 1, 4) (by decide)).1 _) rfl (zmi inU_1) 1 (by decide) (zm flRX1_15) rfl (v := .ref (E.1 (c + 1))) (rfl) dX1_exchange_17 ?_
  refine lv_iload_n hx hb dX1_exchange_20 rfl (lv_at hl 1 rfl) ?_
  refine lv_iload_n hx hb dX1_exchange_21 rfl (lv_at hl 2 rfl) ?_
  refine z_Sv C0 hP hD hA hS (As := [.ref (E.1 (c + 1)), .int (nI i), .int (nI j)]) (rest := []) (c_X1_exchange_ l E _ (c + 1) i j (zIs_sub hc 1 (by decide)) (by omega) (by omega)) (va_cwS 3 hts (zgS zbw mlRX1_35 stX1_exchange_ iniRX1 coX1_exchange_) rfl rfl rfl (by decide +kernel) ⟨Nat.le_of_ble_eq_true rfl, Nat.le_of_ble_eq_true rfl⟩) rfl hl.1 rfl (Nat.le_of_ble_eq_true rfl) dX1_exchange_22 ⟨Nat.zero_le _, Nat.zero_le _⟩ (fun G3 H locs hw3 hP hS => ?_)
  obtain rfl := hw3
  refine lv_aload_n hx hb dX1_exchange_25 rfl (lv_at hl 0 rfl) ?_
  refine z_get C0 hP (C := RX1) (T := TX1) (N := 4) (ci := 1) (index := 19) (k := c) (ref := "WetSuitPedalsShoes$Course") (zk_lt (hc (0, 1, 4) (by decide)).1 (by decide)) (zd_1 E (hc (0, 1, 4) (by decide)).1 _) rfl (zmi inU_1) 2 (by decide) (zm flRX1_19) rfl (v := .ref (E.1 (c + 2))) (rfl) dX1_exchange_26 ?_
  refine lv_iload_n hx hb dX1_exchange_29 rfl (lv_at hl 1 rfl) ?_
  refine lv_iload_n hx hb dX1_exchange_30 rfl (lv_at hl 2 rfl) ?_
  refine z_Sv C0 hP hD hA hS (As := [.ref (E.1 (c + 2)), .int (nI i), .int (nI j)]) (rest := []) (c_X1_exchange_ l E _ (c + 2) i j (zIs_sub hc 2 (by decide)) (by omega) (by omega)) (va_cwS 3 hts (zgS zbw mlRX1_35 stX1_exchange_ iniRX1 coX1_exchange_) rfl rfl rfl (by decide +kernel) ⟨Nat.le_of_ble_eq_true rfl, Nat.le_of_ble_eq_true rfl⟩) rfl hl.1 rfl (Nat.le_of_ble_eq_true rfl) dX1_exchange_31 ⟨Nat.zero_le _, Nat.zero_le _⟩ (fun G4 H locs hw4 hP hS => ?_)
  obtain rfl := hw4
  have hP := zP_eq (congrArg (fun z_ : Nat → Int32 => g1 (g1 G (c + 1) (s_sw (G (c + 1)) i j)) (c + 2) (s_sw z_ i j)) (show (g1 G (c + 1) (s_sw (G (c + 1)) i j)) (c + 2) = G (c + 2) from g1_n (by omega))) hP
  refine lv_aload_n hx hb dX1_exchange_34 rfl (lv_at hl 0 rfl) ?_
  refine z_get C0 hP (C := RX1) (T := TX1) (N := 4) (ci := 1) (index := 22) (k := c) (ref := "WetSuitPedalsShoes$Course") (zk_lt (hc (0, 1, 4) (by decide)).1 (by decide)) (zd_1 E (hc (0, 1, 4) (by decide)).1 _) rfl (zmi inU_1) 3 (by decide) (zm flRX1_22) rfl (v := .ref (E.1 (c + 3))) (rfl) dX1_exchange_35 ?_
  refine lv_iload_n hx hb dX1_exchange_38 rfl (lv_at hl 1 rfl) ?_
  refine lv_iload_n hx hb dX1_exchange_39 rfl (lv_at hl 2 rfl) ?_
  refine z_Sv C0 hP hD hA hS (As := [.ref (E.1 (c + 3)), .int (nI i), .int (nI j)]) (rest := []) (c_X1_exchange_ l E _ (c + 3) i j (zIs_sub hc 3 (by decide)) (by omega) (by omega)) (va_cwS 3 hts (zgS zbw mlRX1_35 stX1_exchange_ iniRX1 coX1_exchange_) rfl rfl rfl (by decide +kernel) ⟨Nat.le_of_ble_eq_true rfl, Nat.le_of_ble_eq_true rfl⟩) rfl hl.1 rfl (Nat.le_of_ble_eq_true rfl) dX1_exchange_40 ⟨Nat.zero_le _, Nat.zero_le _⟩ (fun G5 H locs hw5 hP hS => ?_)
  obtain rfl := hw5
  have hP := zP_eq (congrArg (fun z_ : Nat → Int32 => g1 (g1 (g1 G (c + 1) (s_sw (G (c + 1)) i j)) (c + 2) (s_sw (G (c + 2)) i j)) (c + 3) (s_sw z_ i j)) (show (g1 (g1 G (c + 1) (s_sw (G (c + 1)) i j)) (c + 2) (s_sw (G (c + 2)) i j)) (c + 3) = G (c + 3) from (g1_n (by omega)).trans (g1_n (by omega)))) hP
  subst hQ_
  exact z_vret C0 hP hS (by exact rfl) dX1_exchange_43
