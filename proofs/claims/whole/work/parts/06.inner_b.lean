/-! laid by wip/whole/vcg.py -/
theorem flRX0_9 : Cond.fieldLink RX0 9 "WetSuitPedalsShoes$Athlete" "able" "[I" ∈ zU := zU_m 116 (by decide +kernel) rfl
theorem mlRX0_18 : Cond.methodLink RX0 18 arraycopyName ∈ zU := zU_m 474 (by decide +kernel) rfl
theorem natAC : Cond.native arraycopyName ∈ zU := zU_m 469 (by decide +kernel) rfl
theorem staAC : Cond.static arraycopyName ∈ zU := zU_m 468 (by decide +kernel) rfl
theorem iniSys : Cond.initialized "java/lang/System" ∈ zU := zU_m 60 (by decide +kernel) rfl
theorem flRX0_15 : Cond.fieldLink RX0 15 "WetSuitPedalsShoes$Athlete" "tries" "[I" ∈ zU := zU_m 121 (by decide +kernel) rfl
set_option maxHeartbeats 4000000 in
set_option maxRecDepth 100000 in
theorem c_X0_become (l : Launch) (E : zE) (G : zG) (a o : Nat) (ha : zIs a tAth) (ho : zIs o tAth) (hd : a + 2 < o ∨ o + 2 < a) : zMv l yX0_become wsX0_become ({ frames := 1, cells := 0, slots := 0, locals := 26 } : Room) E G [.ref (E.1 a), .ref (E.1 o)] (fun G1 => (∀ k, (k < a + 1 ∨ a + 2 < k) → G1 k = G k) ∧ (∀ j, j < 4 → G1 (a + 1) j = G (o + 1) j) ∧ (∀ j, j < 10 → G1 (a + 2) j = G (o + 2) j)) := by
  refine zOf (cc := cX0_become) (nL := 2) (ret := none) RX0 (by decide) rfl rfl (Nat.le_of_ble_eq_true rfl) ?_
  intro p_ e_ s_ m_ a_ b_ me_ c_ ls C0 hP hS hl
  have hx := C0.1
  have hb := C0.2.1
  have hts := C0.2.2.2.2.1
  have hD : zD E (zA E s_.heap.size) := C0.2.2.2.2.2.2.2.2
  have hA : ∀ q : Nat, s_.heap.size ≤ q → zA E s_.heap.size q := fun q h => Or.inr h
  refine z_gen (fun Q_ hQ_ => ?_)
  have hl : lv_has ls 2 [(0, .ref (E.1 a)), (1, .ref (E.1 o))] := hl
  refine lv_aload_n hx hb dX0_become_0 rfl (lv_at hl 1 rfl) ?_
  refine z_get C0 hP (C := RX0) (T := TX0) (N := 2) (ci := 0) (index := 9) (k := o) (ref := "WetSuitPedalsShoes$Athlete") (zk_lt (ho (0, 0, 2) (by decide)).1 (by decide)) (zd_0 E (ho (0, 0, 2) (by decide)).1 _) rfl (zmi inU_0) 0 (by decide) (zm flRX0_9) rfl (v := .ref (E.1 (o + 1))) (rfl) dX0_become_1 ?_
  refine lv_iconst (v := (0 : Int32)) hx hb dX0_become_4 (by decide) ?_
  refine lv_aload_n hx hb dX0_become_5 rfl (lv_at hl 0 rfl) ?_
  refine z_get C0 hP (C := RX0) (T := TX0) (N := 2) (ci := 0) (index := 9) (k := a) (ref := "WetSuitPedalsShoes$Athlete") (zk_lt (ha (0, 0, 2) (by decide)).1 (by decide)) (zd_0 E (ha (0, 0, 2) (by decide)).1 _) rfl (zmi inU_0) 0 (by decide) (zm flRX0_9) rfl (v := .ref (E.1 (a + 1))) (rfl) dX0_become_6 ?_
  refine lv_iconst (v := (0 : Int32)) hx hb dX0_become_9 (by decide) ?_
  refine lv_aload_n hx hb dX0_become_10 rfl (lv_at hl 0 rfl) ?_
  refine z_get C0 hP (C := RX0) (T := TX0) (N := 2) (ci := 0) (index := 9) (k := a) (ref := "WetSuitPedalsShoes$Athlete") (zk_lt (ha (0, 0, 2) (by decide)).1 (by decide)) (zd_0 E (ha (0, 0, 2) (by decide)).1 _) rfl (zmi inU_0) 0 (by decide) (zm flRX0_9) rfl (v := .ref (E.1 (a + 1))) (rfl) dX0_become_11 ?_
  refine z_alen C0 hP (k := (a + 1)) (v := (4 : Int32)) (ha (1, 11, 4) (by decide)).1 ((congrArg Int32.ofNat (ha (1, 11, 4) (by decide)).2).trans rfl) dX0_become_14 ?_
  refine z_copy C0 hP hD hS hl.1 (k0 := (o + 1)) (k := (a + 1)) (F0_ := G (o + 1)) (F := G (a + 1)) (sz := 4) (rfl) (rfl) (ho (1, 11, 4) (by decide)).1 (ha (1, 11, 4) (by decide)).1 (Nat.le_trans (show 4 ≤ 4 by decide) (Nat.le_of_eq (ho (1, 11, 4) (by decide)).2.symm)) (Nat.le_trans (show 4 ≤ 4 by decide) (Nat.le_of_eq (ha (1, 11, 4) (by decide)).2.symm)) (by decide) (hts _ (zm mlRX0_18)) (hts _ (zm natAC)) (hts _ (zm staAC)) (hts _ (zm iniSys)) (Nat.le_of_ble_eq_true rfl) (by show _ ≤ _; decide +kernel) dX0_become_15 rfl (fun f_1 hf_1 H locs hP hS => ?_)
  refine lv_aload_n hx hb dX0_become_18 rfl (lv_at hl 1 rfl) ?_
  refine z_get C0 hP (C := RX0) (T := TX0) (N := 2) (ci := 0) (index := 15) (k := o) (ref := "WetSuitPedalsShoes$Athlete") (zk_lt (ho (0, 0, 2) (by decide)).1 (by decide)) (zd_0 E (ho (0, 0, 2) (by decide)).1 _) rfl (zmi inU_0) 1 (by decide) (zm flRX0_15) rfl (v := .ref (E.1 (o + 2))) (rfl) dX0_become_19 ?_
  refine lv_iconst (v := (0 : Int32)) hx hb dX0_become_22 (by decide) ?_
  refine lv_aload_n hx hb dX0_become_23 rfl (lv_at hl 0 rfl) ?_
  refine z_get C0 hP (C := RX0) (T := TX0) (N := 2) (ci := 0) (index := 15) (k := a) (ref := "WetSuitPedalsShoes$Athlete") (zk_lt (ha (0, 0, 2) (by decide)).1 (by decide)) (zd_0 E (ha (0, 0, 2) (by decide)).1 _) rfl (zmi inU_0) 1 (by decide) (zm flRX0_15) rfl (v := .ref (E.1 (a + 2))) (rfl) dX0_become_24 ?_
  refine lv_iconst (v := (0 : Int32)) hx hb dX0_become_27 (by decide) ?_
  refine lv_bipush (v := (10 : Int32)) hx hb dX0_become_28 (by decide) ?_
  refine z_copy C0 hP hD hS hl.1 (k0 := (o + 2)) (k := (a + 2)) (F0_ := G (o + 2)) (F := G (a + 2)) (sz := 10) (g1_n (by omega)) (g1_n (by omega)) (ho (2, 11, 10) (by decide)).1 (ha (2, 11, 10) (by decide)).1 (Nat.le_trans (show 10 ≤ 10 by decide) (Nat.le_of_eq (ho (2, 11, 10) (by decide)).2.symm)) (Nat.le_trans (show 10 ≤ 10 by decide) (Nat.le_of_eq (ha (2, 11, 10) (by decide)).2.symm)) (by decide) (hts _ (zm mlRX0_18)) (hts _ (zm natAC)) (hts _ (zm staAC)) (hts _ (zm iniSys)) (Nat.le_of_ble_eq_true rfl) (by show _ ≤ _; decide +kernel) dX0_become_30 rfl (fun f_2 hf_2 H locs hP hS => ?_)
  subst hQ_
  exact z_vret C0 hP hS (by exact ⟨(by exact fun k hk => (g1_n (by omega)).trans (g1_n (by omega))), (fun j hj => (congrFun ((g1_n (by omega)).trans (g1_s _ _ _)) j).trans (hf_1 j hj)), (fun j hj => (congrFun (g1_s _ _ _) j).trans (hf_2 j hj))⟩) dX0_become_33
theorem mlRX1_25 : Cond.methodLink RX1 25 arraycopyName ∈ zU := zU_m 467 (by decide +kernel) rfl
set_option maxHeartbeats 4000000 in
set_option maxRecDepth 100000 in
theorem c_X1_become (l : Launch) (E : zE) (G : zG) (c o : Nat) (hc : zIs c tCou) (ho : zIs o tCou) (hd : c + 3 < o ∨ o + 3 < c) : zMv l yX1_become wsX1_become ({ frames := 1, cells := 0, slots := 0, locals := 26 } : Room) E G [.ref (E.1 c), .ref (E.1 o)] (fun G1 => (∀ k, (k < c ∨ c + 3 < k) → G1 k = G k) ∧ G1 c 0 = G o 0 ∧ ∀ j, j < 10 → G1 (c + 1) j = G (o + 1) j ∧ G1 (c + 2) j = G (o + 2) j ∧ G1 (c + 3) j = G (o + 3) j) := by
  refine zOf (cc := cX1_become) (nL := 2) (ret := none) RX1 (by decide) rfl rfl (Nat.le_of_ble_eq_true rfl) ?_
  intro p_ e_ s_ m_ a_ b_ me_ c_ ls C0 hP hS hl
  have hx := C0.1
  have hb := C0.2.1
  have hts := C0.2.2.2.2.1
  have hD : zD E (zA E s_.heap.size) := C0.2.2.2.2.2.2.2.2
  have hA : ∀ q : Nat, s_.heap.size ≤ q → zA E s_.heap.size q := fun q h => Or.inr h
  refine z_gen (fun Q_ hQ_ => ?_)
  have hl : lv_has ls 2 [(0, .ref (E.1 c)), (1, .ref (E.1 o))] := hl
  refine lv_aload_n hx hb dX1_become_0 rfl (lv_at hl 0 rfl) ?_
  refine lv_aload_n hx hb dX1_become_1 rfl (lv_at hl 1 rfl) ?_
  refine z_get C0 hP (C := RX1) (T := TX1) (N := 4) (ci := 1) (index := 9) (k := o) (ref := "WetSuitPedalsShoes$Course") (zk_lt (ho (0, 1, 4) (by decide)).1 (by decide)) (zd_1 E (ho (0, 1, 4) (by decide)).1 _) rfl (zmi inU_1) 0 (by decide) (zm flRX1_9) rfl (v := .int (G o 0)) (rfl) dX1_become_2 ?_
  refine z_put C0 hP hD hS (C := RX1) (T := TX1) (N := 4) (ci := 1) (index := 9) (k := c) (ref := "WetSuitPedalsShoes$Course") (F := G c) (ty := .int) (rfl) tyX1 tyX1_ok nmX1 (zk_lt (hc (0, 1, 4) (by decide)).1 (by decide)) (zd_1 E (hc (0, 1, 4) (by decide)).1 _) rfl (zmi inU_1) 0 (by decide) (zm flRX1_9) rfl rfl (by decide +kernel) (by rfl) rfl (by show 0 < 4; decide) (upd (G c) 0 (G o 0)) ((zd_1 E (hc (0, 1, 4) (by decide)).1 _).trans (rfl)) dX1_become_5 (fun H locs hP hS => ?_)
  refine lv_aload_n hx hb dX1_become_8 rfl (lv_at hl 1 rfl) ?_
  refine z_get C0 hP (C := RX1) (T := TX1) (N := 4) (ci := 1) (index := 15) (k := o) (ref := "WetSuitPedalsShoes$Course") (zk_lt (ho (0, 1, 4) (by decide)).1 (by decide)) (zd_1 E (ho (0, 1, 4) (by decide)).1 _) rfl (zmi inU_1) 1 (by decide) (zm flRX1_15) rfl (v := .ref (E.1 (o + 1))) (rfl) dX1_become_9 ?_
  refine lv_iconst (v := (0 : Int32)) hx hb dX1_become_12 (by decide) ?_
  refine lv_aload_n hx hb dX1_become_13 rfl (lv_at hl 0 rfl) ?_
  refine z_get C0 hP (C := RX1) (T := TX1) (N := 4) (ci := 1) (index := 15) (k := c) (ref := "WetSuitPedalsShoes$Course") (zk_lt (hc (0, 1, 4) (by decide)).1 (by decide)) (zd_1 E (hc (0, 1, 4) (by decide)).1 _) rfl (zmi inU_1) 1 (by decide) (zm flRX1_15) rfl (v := .ref (E.1 (c + 1))) (rfl) dX1_become_14 ?_
  refine lv_iconst (v := (0 : Int32)) hx hb dX1_become_17 (by decide) ?_
  refine lv_bipush (v := (10 : Int32)) hx hb dX1_become_18 (by decide) ?_
  refine z_copy C0 hP hD hS hl.1 (k0 := (o + 1)) (k := (c + 1)) (F0_ := G (o + 1)) (F := G (c + 1)) (sz := 10) (g1_n (by omega)) (g1_n (by omega)) (ho (1, 11, 10) (by decide)).1 (hc (1, 11, 10) (by decide)).1 (Nat.le_trans (show 10 ≤ 10 by decide) (Nat.le_of_eq (ho (1, 11, 10) (by decide)).2.symm)) (Nat.le_trans (show 10 ≤ 10 by decide) (Nat.le_of_eq (hc (1, 11, 10) (by decide)).2.symm)) (by decide) (hts _ (zm mlRX1_25)) (hts _ (zm natAC)) (hts _ (zm staAC)) (hts _ (zm iniSys)) (Nat.le_of_ble_eq_true rfl) (by show _ ≤ _; decide +kernel) dX1_become_20 rfl (fun f_1 hf_1 H locs hP hS => ?_)
  refine lv_aload_n hx hb dX1_become_23 rfl (lv_at hl 1 rfl) ?_
  refine z_get C0 hP (C := RX1) (T := TX1) (N := 4) (ci := 1) (index := 19) (k := o) (ref := "WetSuitPedalsShoes$Course") (zk_lt (ho (0, 1, 4) (by decide)).1 (by decide)) (zd_1 E (ho (0, 1, 4) (by decide)).1 _) rfl (zmi inU_1) 2 (by decide) (zm flRX1_19) rfl (v := .ref (E.1 (o + 2))) (rfl) dX1_become_24 ?_
  refine lv_iconst (v := (0 : Int32)) hx hb dX1_become_27 (by decide) ?_
  refine lv_aload_n hx hb dX1_become_28 rfl (lv_at hl 0 rfl) ?_
  refine z_get C0 hP (C := RX1) (T := TX1) (N := 4) (ci := 1) (index := 19) (k := c) (ref := "WetSuitPedalsShoes$Course") (zk_lt (hc (0, 1, 4) (by decide)).1 (by decide)) (zd_1 E (hc (0, 1, 4) (by decide)).1 _) rfl (zmi inU_1) 2 (by decide) (zm flRX1_19) rfl (v := .ref (E.1 (c + 2))) (rfl) dX1_become_29 ?_
  refine lv_iconst (v := (0 : Int32)) hx hb dX1_become_32 (by decide) ?_
  refine lv_bipush (v := (10 : Int32)) hx hb dX1_become_33 (by decide) ?_
  refine z_copy C0 hP hD hS hl.1 (k0 := (o + 2)) (k := (c + 2)) (F0_ := G (o + 2)) (F := G (c + 2)) (sz := 10) ((g1_n (by omega)).trans (g1_n (by omega))) ((g1_n (by omega)).trans (g1_n (by omega))) (ho (2, 11, 10) (by decide)).1 (hc (2, 11, 10) (by decide)).1 (Nat.le_trans (show 10 ≤ 10 by decide) (Nat.le_of_eq (ho (2, 11, 10) (by decide)).2.symm)) (Nat.le_trans (show 10 ≤ 10 by decide) (Nat.le_of_eq (hc (2, 11, 10) (by decide)).2.symm)) (by decide) (hts _ (zm mlRX1_25)) (hts _ (zm natAC)) (hts _ (zm staAC)) (hts _ (zm iniSys)) (Nat.le_of_ble_eq_true rfl) (by show _ ≤ _; decide +kernel) dX1_become_35 rfl (fun f_2 hf_2 H locs hP hS => ?_)
  refine lv_aload_n hx hb dX1_become_38 rfl (lv_at hl 1 rfl) ?_
  refine z_get C0 hP (C := RX1) (T := TX1) (N := 4) (ci := 1) (index := 22) (k := o) (ref := "WetSuitPedalsShoes$Course") (zk_lt (ho (0, 1, 4) (by decide)).1 (by decide)) (zd_1 E (ho (0, 1, 4) (by decide)).1 _) rfl (zmi inU_1) 3 (by decide) (zm flRX1_22) rfl (v := .ref (E.1 (o + 3))) (rfl) dX1_become_39 ?_
  refine lv_iconst (v := (0 : Int32)) hx hb dX1_become_42 (by decide) ?_
  refine lv_aload_n hx hb dX1_become_43 rfl (lv_at hl 0 rfl) ?_
  refine z_get C0 hP (C := RX1) (T := TX1) (N := 4) (ci := 1) (index := 22) (k := c) (ref := "WetSuitPedalsShoes$Course") (zk_lt (hc (0, 1, 4) (by decide)).1 (by decide)) (zd_1 E (hc (0, 1, 4) (by decide)).1 _) rfl (zmi inU_1) 3 (by decide) (zm flRX1_22) rfl (v := .ref (E.1 (c + 3))) (rfl) dX1_become_44 ?_
  refine lv_iconst (v := (0 : Int32)) hx hb dX1_become_47 (by decide) ?_
  refine lv_bipush (v := (10 : Int32)) hx hb dX1_become_48 (by decide) ?_
  refine z_copy C0 hP hD hS hl.1 (k0 := (o + 3)) (k := (c + 3)) (F0_ := G (o + 3)) (F := G (c + 3)) (sz := 10) ((g1_n (by omega)).trans ((g1_n (by omega)).trans (g1_n (by omega)))) ((g1_n (by omega)).trans ((g1_n (by omega)).trans (g1_n (by omega)))) (ho (3, 11, 10) (by decide)).1 (hc (3, 11, 10) (by decide)).1 (Nat.le_trans (show 10 ≤ 10 by decide) (Nat.le_of_eq (ho (3, 11, 10) (by decide)).2.symm)) (Nat.le_trans (show 10 ≤ 10 by decide) (Nat.le_of_eq (hc (3, 11, 10) (by decide)).2.symm)) (by decide) (hts _ (zm mlRX1_25)) (hts _ (zm natAC)) (hts _ (zm staAC)) (hts _ (zm iniSys)) (Nat.le_of_ble_eq_true rfl) (by show _ ≤ _; decide +kernel) dX1_become_50 rfl (fun f_3 hf_3 H locs hP hS => ?_)
  subst hQ_
  exact z_vret C0 hP hS (by exact ⟨(by exact fun k hk => (g1_n (by omega)).trans ((g1_n (by omega)).trans ((g1_n (by omega)).trans (g1_n (by omega))))), (congrFun ((g1_n (by omega)).trans ((g1_n (by omega)).trans ((g1_n (by omega)).trans (g1_s _ _ _)))) _).trans (pk_us), (fun j hj => ⟨(congrFun ((g1_n (by omega)).trans ((g1_n (by omega)).trans (g1_s _ _ _))) j).trans (hf_1 j hj), (congrFun ((g1_n (by omega)).trans (g1_s _ _ _)) j).trans (hf_2 j hj), (congrFun (g1_s _ _ _) j).trans (hf_3 j hj)⟩)⟩) dX1_become_53
theorem flRX10_12 : Cond.fieldLink RX10 12 "WetSuitPedalsShoes$Trial" "course" "LWetSuitPedalsShoes$Course;" ∈ zU := zU_m 184 (by decide +kernel) rfl
theorem mlRX10_39 : Cond.methodLink RX10 39 yX1_become ∈ zU := zU_m 463 (by decide +kernel) rfl
theorem coX1_become : Cond.code yX1_become cX1_become 2 none ∈ zU := zU_m 466 (by decide +kernel) rfl
theorem imX1_become : Cond.instanceMethod yX1_become ∈ zU := zU_m 464 (by decide +kernel) rfl
theorem seX1_become : Cond.selects RX1 yX1_become yX1_become ∈ zU := zU_m 465 (by decide +kernel) rfl
theorem flRX10_21 : Cond.fieldLink RX10 21 "WetSuitPedalsShoes$Trial" "who" "LWetSuitPedalsShoes$Athlete;" ∈ zU := zU_m 186 (by decide +kernel) rfl
theorem mlRX10_43 : Cond.methodLink RX10 43 yX0_become ∈ zU := zU_m 470 (by decide +kernel) rfl
theorem coX0_become : Cond.code yX0_become cX0_become 2 none ∈ zU := zU_m 473 (by decide +kernel) rfl
theorem imX0_become : Cond.instanceMethod yX0_become ∈ zU := zU_m 471 (by decide +kernel) rfl
theorem seX0_become : Cond.selects RX0 yX0_become yX0_become ∈ zU := zU_m 472 (by decide +kernel) rfl
theorem iniRX0 : Cond.initialized RX0 ∈ zU := zU_m 51 (by decide +kernel) rfl
theorem flRX10_25 : Cond.fieldLink RX10 25 "WetSuitPedalsShoes$Trial" "drinkBehind" "I" ∈ zU := zU_m 188 (by decide +kernel) rfl
set_option maxHeartbeats 4000000 in
set_option maxRecDepth 100000 in
theorem c_X10_load (l : Launch) (E : zE) (G : zG) (t c a : Nat) (ht : zIs t tTri) (hc : zIs c tCou) (ha : zIs a tAth) (hd : t + 10 < c ∨ c + 3 < t) (hd2 : t + 10 < a ∨ a + 2 < t) : zMv l yX10_load wsX10_load ({ frames := 2, cells := 0, slots := 0, locals := 47 } : Room) E G [.ref (E.1 t), .ref (E.1 c), .ref (E.1 a)] (fun G1 => (∀ k, (k < t ∨ t + 7 < k) → G1 k = G k) ∧ G1 (t + 1) 0 = G c 0 ∧ (∀ j, j < 10 → G1 (t + 2) j = G (c + 1) j ∧ G1 (t + 3) j = G (c + 2) j ∧ G1 (t + 4) j = G (c + 3) j) ∧ (∀ j, j < 4 → G1 (t + 6) j = G (a + 1) j) ∧ (∀ j, j < 10 → G1 (t + 7) j = G (a + 2) j) ∧ G1 t 2 = -9) := by
  refine zOf (cc := cX10_load) (nL := 3) (ret := none) RX10 (by decide) rfl rfl (Nat.le_of_ble_eq_true rfl) ?_
  intro p_ e_ s_ m_ a_ b_ me_ c_ ls C0 hP hS hl
  have hx := C0.1
  have hb := C0.2.1
  have hts := C0.2.2.2.2.1
  have hD : zD E (zA E s_.heap.size) := C0.2.2.2.2.2.2.2.2
  have hA : ∀ q : Nat, s_.heap.size ≤ q → zA E s_.heap.size q := fun q h => Or.inr h
  refine z_gen (fun Q_ hQ_ => ?_)
  have hl : lv_has ls 3 [(0, .ref (E.1 t)), (1, .ref (E.1 c)), (2, .ref (E.1 a))] := hl
  refine lv_aload_n hx hb dX10_load_0 rfl (lv_at hl 0 rfl) ?_
  refine z_get C0 hP (C := RX10) (T := TX10) (N := 6) (ci := 8) (index := 12) (k := t) (ref := "WetSuitPedalsShoes$Trial") (zk_lt (ht (0, 8, 6) (by decide)).1 (by decide)) (zd_8 E (ht (0, 8, 6) (by decide)).1 _) rfl (zmi inU_10) 0 (by decide) (zm flRX10_12) rfl (v := .ref (E.1 (t + 1))) (rfl) dX10_load_1 ?_
  refine lv_aload_n hx hb dX10_load_4 rfl (lv_at hl 1 rfl) ?_
  refine z_Vv C0 hP hD hA hS (As := [.ref (E.1 c)]) (rest := []) (k := (t + 1)) (c_X1_become l E _ (t + 1) c (zIs_sub ht 1 (by decide)) hc (by omega)) (cwV 1 hts (zgV zbw mlRX10_39 imX1_become seX1_become iniRX1 coX1_become) rfl rfl rfl (by decide +kernel) ⟨Nat.le_of_ble_eq_true rfl, Nat.le_of_ble_eq_true rfl⟩) (zk_lt (ht (1, 1, 4) (by decide)).1 (by decide)) (zd_1 E (ht (1, 1, 4) (by decide)).1 _) rfl rfl rfl hl.1 rfl (Nat.le_of_ble_eq_true rfl) dX10_load_5 ⟨Nat.zero_le _, Nat.zero_le _⟩ (fun G1 H locs hw1 hP hS => ?_)
  obtain ⟨hF1, hmn1, hkf1⟩ := hw1
  refine lv_aload_n hx hb dX10_load_8 rfl (lv_at hl 0 rfl) ?_
  refine z_get C0 hP (C := RX10) (T := TX10) (N := 6) (ci := 8) (index := 21) (k := t) (ref := "WetSuitPedalsShoes$Trial") (zk_lt (ht (0, 8, 6) (by decide)).1 (by decide)) (zd_8 E (ht (0, 8, 6) (by decide)).1 _) rfl (zmi inU_10) 1 (by decide) (zm flRX10_21) rfl (v := .ref (E.1 (t + 5))) (rfl) dX10_load_9 ?_
  refine lv_aload_n hx hb dX10_load_12 rfl (lv_at hl 2 rfl) ?_
  refine z_Vv C0 hP hD hA hS (As := [.ref (E.1 a)]) (rest := []) (k := (t + 5)) (c_X0_become l E _ (t + 5) a (zIs_sub ht 5 (by decide)) ha (by omega)) (cwV 1 hts (zgV zbw mlRX10_43 imX0_become seX0_become iniRX0 coX0_become) rfl rfl rfl (by decide +kernel) ⟨Nat.le_of_ble_eq_true rfl, Nat.le_of_ble_eq_true rfl⟩) (zk_lt (ht (5, 0, 2) (by decide)).1 (by decide)) (zd_0 E (ht (5, 0, 2) (by decide)).1 _) rfl rfl rfl hl.1 rfl (Nat.le_of_ble_eq_true rfl) dX10_load_13 ⟨Nat.zero_le _, Nat.zero_le _⟩ (fun G2 H locs hw2 hP hS => ?_)
  obtain ⟨hF2, hab2, htr2⟩ := hw2
  refine lv_aload_n hx hb dX10_load_16 rfl (lv_at hl 0 rfl) ?_
  refine lv_bipush (v := (-9 : Int32)) hx hb dX10_load_17 (by decide) ?_
  refine z_put C0 hP hD hS (C := RX10) (T := TX10) (N := 6) (ci := 8) (index := 25) (k := t) (ref := "WetSuitPedalsShoes$Trial") (F := G t) (ty := .int) ((hF2 _ (by omega)).trans (hF1 _ (by omega))) tyX10 tyX10_ok nmX10 (zk_lt (ht (0, 8, 6) (by decide)).1 (by decide)) (zd_8 E (ht (0, 8, 6) (by decide)).1 _) rfl (zmi inU_10) 2 (by decide) (zm flRX10_25) rfl rfl (by decide +kernel) (by rfl) rfl (by show 2 < 6; decide) (upd (G t) 2 (-9 : Int32)) ((zd_8 E (ht (0, 8, 6) (by decide)).1 _).trans (rfl)) dX10_load_19 (fun H locs hP hS => ?_)
  subst hQ_
  exact z_vret C0 hP hS (by exact ⟨(by exact fun k hk => (g1_n (by omega)).trans ((hF2 k (by omega)).trans (hF1 k (by omega)))), (congrFun ((g1_n (by omega)).trans (hF2 _ (by omega))) _).trans (hmn1), (fun j hj => ⟨(congrFun ((g1_n (by omega)).trans (hF2 _ (by omega))) j).trans ((hkf1 j hj).1), (congrFun ((g1_n (by omega)).trans (hF2 _ (by omega))) j).trans ((hkf1 j hj).2.1), (congrFun ((g1_n (by omega)).trans (hF2 _ (by omega))) j).trans ((hkf1 j hj).2.2)⟩), (fun j hj => (congrFun (g1_n (by omega)) j).trans ((hab2 j hj).trans (congrFun (hF1 _ (by omega)) j))), (fun j hj => (congrFun (g1_n (by omega)) j).trans ((htr2 j hj).trans (congrFun (hF1 _ (by omega)) j))), (congrFun (g1_s _ _ _) _).trans (pk_us)⟩) dX10_load_22
theorem flRX10_46 : Cond.fieldLink RX10 46 "WetSuitPedalsShoes$Athlete" "able" "[I" ∈ zU := zU_m 118 (by decide +kernel) rfl
theorem flRX10_49 : Cond.fieldLink RX10 49 "WetSuitPedalsShoes$Course" "many" "I" ∈ zU := zU_m 85 (by decide +kernel) rfl
theorem flRX10_52 : Cond.fieldLink RX10 52 "WetSuitPedalsShoes$Athlete" "tries" "[I" ∈ zU := zU_m 122 (by decide +kernel) rfl
theorem flRX10_29 : Cond.fieldLink RX10 29 "WetSuitPedalsShoes$Trial" "seconds" "[I" ∈ zU := zU_m 190 (by decide +kernel) rfl
theorem mlRX10_55 : Cond.methodLink RX10 55 yX1_untried ∈ zU := zU_m 479 (by decide +kernel) rfl
theorem coX1_untried : Cond.code yX1_untried cX1_untried 6 (some .int) ∈ zU := zU_m 482 (by decide +kernel) rfl
theorem imX1_untried : Cond.instanceMethod yX1_untried ∈ zU := zU_m 480 (by decide +kernel) rfl
theorem seX1_untried : Cond.selects RX1 yX1_untried yX1_untried ∈ zU := zU_m 481 (by decide +kernel) rfl
theorem mlRX10_59 : Cond.methodLink RX10 59 yX4_secondsTrying ∈ zU := zU_m 490 (by decide +kernel) rfl
theorem coX4_secondsTrying : Cond.code yX4_secondsTrying cX4_secondsTrying 3 (some .int) ∈ zU := zU_m 492 (by decide +kernel) rfl
theorem stX4_secondsTrying : Cond.static yX4_secondsTrying ∈ zU := zU_m 491 (by decide +kernel) rfl
theorem flRX10_65 : Cond.fieldLink RX10 65 "WetSuitPedalsShoes$Course" "kind" "[I" ∈ zU := zU_m 91 (by decide +kernel) rfl
theorem flRX10_68 : Cond.fieldLink RX10 68 "WetSuitPedalsShoes$Course" "length" "[I" ∈ zU := zU_m 97 (by decide +kernel) rfl
theorem mlRX10_71 : Cond.methodLink RX10 71 yX4_legsBehind ∈ zU := zU_m 493 (by decide +kernel) rfl
theorem coX4_legsBehind : Cond.code yX4_legsBehind cX4_legsBehind 5 (some .int) ∈ zU := zU_m 495 (by decide +kernel) rfl
theorem stX4_legsBehind : Cond.static yX4_legsBehind ∈ zU := zU_m 494 (by decide +kernel) rfl
theorem flRX10_33 : Cond.fieldLink RX10 33 "WetSuitPedalsShoes$Trial" "legs" "[I" ∈ zU := zU_m 192 (by decide +kernel) rfl
theorem flRX10_36 : Cond.fieldLink RX10 36 "WetSuitPedalsShoes$Trial" "all" "[I" ∈ zU := zU_m 194 (by decide +kernel) rfl
theorem mlRX10_75 : Cond.methodLink RX10 75 Lib.Math.min.name ∈ zU := zU_m 503 (by decide +kernel) rfl
set_option maxHeartbeats 4000000 in
set_option maxRecDepth 100000 in
theorem c_X10_run (l : Launch) (E : zE) (G : zG) (t n : Nat) (ht : zIs t tTri) (hn : G (t + 1) 0 = nI n) (hn10 : n ≤ 10) : zMi l yX10_run wsX10_run ({ frames := 3, cells := 0, slots := 0, locals := 66 } : Room) E G [.ref (E.1 t)] (fun r G1 => (zt_run G t n).2 = r ∧ (∀ k, (k < t + 8 ∨ t + 10 < k) → G1 k = G k) ∧ ∀ j, j < n → G1 (t + 8) j = zt_sc G t j ∧ G1 (t + 9) j = (zt_run G t (j + 1)).1 ∧ G1 (t + 10) j = (zt_run G t (j + 1)).2) := by
  refine zOf (cc := cX10_run) (nL := 5) (ret := (some .int)) RX10 (by decide) rfl rfl (Nat.le_of_ble_eq_true rfl) ?_
  intro p_ e_ s_ m_ a_ b_ me_ c_ ls C0 hP hS hl
  have hx := C0.1
  have hb := C0.2.1
  have hts := C0.2.2.2.2.1
  have hD : zD E (zA E s_.heap.size) := C0.2.2.2.2.2.2.2.2
  have hA : ∀ q : Nat, s_.heap.size ≤ q → zA E s_.heap.size q := fun q h => Or.inr h
  refine z_gen (fun Q_ hQ_ => ?_)
  have hl : lv_has ls 5 [(0, .ref (E.1 t))] := hl
  refine lv_aload_n hx hb dX10_run_0 rfl (lv_at hl 0 rfl) ?_
  refine z_get C0 hP (C := RX10) (T := TX10) (N := 6) (ci := 8) (index := 21) (k := t) (ref := "WetSuitPedalsShoes$Trial") (zk_lt (ht (0, 8, 6) (by decide)).1 (by decide)) (zd_8 E (ht (0, 8, 6) (by decide)).1 _) rfl (zmi inU_10) 1 (by decide) (zm flRX10_21) rfl (v := .ref (E.1 (t + 5))) (rfl) dX10_run_1 ?_
  refine z_get C0 hP (C := RX0) (T := TX0) (N := 2) (ci := 0) (index := 46) (k := (t + 5)) (ref := "WetSuitPedalsShoes$Athlete") (zk_lt (ht (5, 0, 2) (by decide)).1 (by decide)) (zd_0 E (ht (5, 0, 2) (by decide)).1 _) rfl (zmi inU_0) 0 (by decide) (zm flRX10_46) rfl (v := .ref (E.1 (t + 6))) (rfl) dX10_run_4 ?_
  refine lv_iconst (v := (3 : Int32)) hx hb dX10_run_7 (by decide) ?_
  refine z_iald C0 hP (k := (t + 6)) (i := 3) (v := (G (t + 6) 3)) (ht (6, 11, 4) (by decide)).1 (Nat.lt_of_lt_of_eq (show 3 < 4 by decide) (ht (6, 11, 4) (by decide)).2.symm) rfl dX10_run_8 (rfl) ?_
  refine lv_istore_n (lv' := [(1, .int (G (t + 6) 3)), (0, .ref (E.1 t))]) hx hb dX10_run_9 rfl hl (by decide) rfl (fun ls hl => ?_)
  refine lv_iconst (v := (0 : Int32)) hx hb dX10_run_10 (by decide) ?_
  refine lv_istore_n (lv' := [(2, .int (0 : Int32)), (1, .int (G (t + 6) 3)), (0, .ref (E.1 t))]) hx hb dX10_run_11 rfl hl (by decide) rfl (fun ls hl => ?_)
  refine lv_iconst (v := (0 : Int32)) hx hb dX10_run_12 (by decide) ?_
  refine lv_istore_n (lv' := [(3, .int (0 : Int32)), (2, .int (0 : Int32)), (1, .int (G (t + 6) 3)), (0, .ref (E.1 t))]) hx hb dX10_run_13 rfl hl (by decide) rfl (fun ls hl => ?_)
  have cut_14 : ∀ (fuel : Nat), ∀ (i : Nat) (g sm : Int32) (G1 : zG) (H : Heap) (locs : List Loc) (ls : Array Slot), (i ≤ n) → (g = (zt_run G t i).1) → (sm = (zt_run G t i).2) → (∀ k, (k < t + 8 ∨ t + 10 < k) → G1 k = G k) → (∀ j, j < i → G1 (t + 8) j = zt_sc G t j ∧ G1 (t + 9) j = (zt_run G t (j + 1)).1 ∧ G1 (t + 10) j = (zt_run G t (j + 1)).2) → zP E G1 H → va_S (zA E s_.heap.size) s_.heap H locs → lv_has ls 5 [(0, .ref (E.1 t)), (1, .int g), (2, .int sm), (3, .int (nI i))] → n - i < fuel → W p_ l e_ ({ frames := 3, cells := 0, slots := 0, locals := 66 } : Room) s_ m_ a_ b_ me_ c_ H locs 0 0 Q_ (F0 m_ 14 ls []) := by
    intro fuel
    induction fuel with
    | zero =>
      intro i  g sm  G1  H locs ls hin hg hsm hF1 hrow hP hS hl hfu
      exact absurd hfu (Nat.not_lt_zero _)
    | succ fuel ih_14 =>
      intro i  g sm  G1  H locs ls hin hg hsm hF1 hrow hP hS hl hfu_14
      refine lv_iload_n hx hb dX10_run_14 rfl (lv_at hl 3 rfl) ?_
      refine lv_aload_n hx hb dX10_run_15 rfl (lv_at hl 0 rfl) ?_
      refine z_get C0 hP (C := RX10) (T := TX10) (N := 6) (ci := 8) (index := 12) (k := t) (ref := "WetSuitPedalsShoes$Trial") (zk_lt (ht (0, 8, 6) (by decide)).1 (by decide)) (zd_8 E (ht (0, 8, 6) (by decide)).1 _) rfl (zmi inU_10) 0 (by decide) (zm flRX10_12) rfl (v := .ref (E.1 (t + 1))) (rfl) dX10_run_16 ?_
      refine z_get C0 hP (C := RX1) (T := TX1) (N := 4) (ci := 1) (index := 49) (k := (t + 1)) (ref := "WetSuitPedalsShoes$Course") (zk_lt (ht (1, 1, 4) (by decide)).1 (by decide)) (zd_1 E (ht (1, 1, 4) (by decide)).1 _) rfl (zmi inU_1) 0 (by decide) (zm flRX10_49) rfl (v := .int (nI n)) (congrArg (fun z => some (Value.int z)) ((congrFun (hF1 _ (by omega)) _).trans (hn))) dX10_run_19 ?_
      refine z_N_ge hx hb (a := i) (b := n) (tgt := 132) dX10_run_22 rfl rfl (by omega) (by omega) (by decide) (fun c_22 => ?_) (fun c_22 => ?_)
      · skip
        refine lv_iload_n hx hb dX10_run_132 rfl (lv_at hl 2 rfl) ?_
        subst hQ_
        exact z_iret C0 hP hS (v := sm) (by exact ⟨(hsm.trans (by rw [show i = n by omega])).symm, hF1, fun j hj => hrow j (by omega)⟩) dX10_run_133
      · skip
        refine lv_aload_n hx hb dX10_run_25 rfl (lv_at hl 0 rfl) ?_
        refine z_get C0 hP (C := RX10) (T := TX10) (N := 6) (ci := 8) (index := 21) (k := t) (ref := "WetSuitPedalsShoes$Trial") (zk_lt (ht (0, 8, 6) (by decide)).1 (by decide)) (zd_8 E (ht (0, 8, 6) (by decide)).1 _) rfl (zmi inU_10) 1 (by decide) (zm flRX10_21) rfl (v := .ref (E.1 (t + 5))) (rfl) dX10_run_26 ?_
        refine z_get C0 hP (C := RX0) (T := TX0) (N := 2) (ci := 0) (index := 52) (k := (t + 5)) (ref := "WetSuitPedalsShoes$Athlete") (zk_lt (ht (5, 0, 2) (by decide)).1 (by decide)) (zd_0 E (ht (5, 0, 2) (by decide)).1 _) rfl (zmi inU_0) 1 (by decide) (zm flRX10_52) rfl (v := .ref (E.1 (t + 7))) (rfl) dX10_run_29 ?_
        refine lv_iload_n hx hb dX10_run_32 rfl (lv_at hl 3 rfl) ?_
        refine z_iald C0 hP (k := (t + 7)) (i := i) (v := (G (t + 7) i)) (ht (7, 11, 10) (by decide)).1 (Nat.lt_of_lt_of_eq (show i < 10 by omega) (ht (7, 11, 10) (by decide)).2.symm) rfl dX10_run_33 (congrFun (hF1 _ (by omega)) _) ?_
        refine lv_istore (lv' := [(4, .int (G (t + 7) i)), (0, .ref (E.1 t)), (1, .int g), (2, .int sm), (3, .int (nI i))]) hx hb dX10_run_34 hl (by decide) rfl (fun ls hl => ?_)
        refine lv_aload_n hx hb dX10_run_36 rfl (lv_at hl 1 rfl) ?_
        refine z_get C0 hP (C := RX10) (T := TX10) (N := 6) (ci := 8) (index := 29) (k := t) (ref := "WetSuitPedalsShoes$Trial") (zk_lt (ht (0, 8, 6) (by decide)).1 (by decide)) (zd_8 E (ht (0, 8, 6) (by decide)).1 _) rfl (zmi inU_10) 3 (by decide) (zm flRX10_29) rfl (v := .ref (E.1 (t + 8))) (rfl) dX10_run_37 ?_
        refine lv_iload_n hx hb dX10_run_40 rfl (lv_at hl 4 rfl) ?_
        refine lv_aload_n hx hb dX10_run_41 rfl (lv_at hl 1 rfl) ?_
        refine z_get C0 hP (C := RX10) (T := TX10) (N := 6) (ci := 8) (index := 12) (k := t) (ref := "WetSuitPedalsShoes$Trial") (zk_lt (ht (0, 8, 6) (by decide)).1 (by decide)) (zd_8 E (ht (0, 8, 6) (by decide)).1 _) rfl (zmi inU_10) 0 (by decide) (zm flRX10_12) rfl (v := .ref (E.1 (t + 1))) (rfl) dX10_run_42 ?_
        refine lv_iload_n hx hb dX10_run_45 rfl (lv_at hl 4 rfl) ?_
        refine lv_aload_n hx hb dX10_run_46 rfl (lv_at hl 1 rfl) ?_
        refine z_get C0 hP (C := RX10) (T := TX10) (N := 6) (ci := 8) (index := 21) (k := t) (ref := "WetSuitPedalsShoes$Trial") (zk_lt (ht (0, 8, 6) (by decide)).1 (by decide)) (zd_8 E (ht (0, 8, 6) (by decide)).1 _) rfl (zmi inU_10) 1 (by decide) (zm flRX10_21) rfl (v := .ref (E.1 (t + 5))) (rfl) dX10_run_47 ?_
        refine z_Vi C0 hP hD hA hS (As := [.int (nI i), .ref (E.1 (t + 5))]) (rest := [.int (nI i), .ref (E.1 (t + 8))]) (k := (t + 1)) (c_X1_untried l E _ (t + 1) i (t + 5) (zIs_sub ht 1 (by decide)) (zIs_sub ht 5 (by decide)) (by omega)) (cwV 2 hts (zgV zbw mlRX10_55 imX1_untried seX1_untried iniRX1 coX1_untried) rfl rfl rfl (by decide +kernel) ⟨Nat.le_of_ble_eq_true rfl, Nat.le_of_ble_eq_true rfl⟩) (zk_lt (ht (1, 1, 4) (by decide)).1 (by decide)) (zd_1 E (ht (1, 1, 4) (by decide)).1 _) rfl rfl rfl hl.1 rfl (Nat.le_of_ble_eq_true rfl) dX10_run_50 ⟨Nat.zero_le _, Nat.zero_le _⟩ (fun r1 G1 H locs hw1 hP hS => ?_)
        obtain ⟨hr1, rfl⟩ := hw1
        have hr1 := ((s_plain_c (hF1 _ (by omega)) (hF1 _ (by omega)) (hF1 _ (by omega)) (hF1 _ (by omega)) : _ = s_plain (G (t + 2)) (G (t + 3)) (G (t + 4)) (G (t + 6)) i).symm).trans hr1
        subst hr1
        refine lv_iload hx hb dX10_run_53 (lv_at hl 0 rfl) ?_
        refine lv_iload_n hx hb dX10_run_55 rfl (lv_at hl 2 rfl) ?_
        refine z_Si C0 hP hD hA hS (As := [.int (s_plain (G (t + 2)) (G (t + 3)) (G (t + 4)) (G (t + 6)) i), .int (G (t + 7) i), .int g]) (rest := [.int (nI i), .ref (E.1 (t + 8))]) (c_X4_secondsTrying l E _ (s_plain (G (t + 2)) (G (t + 3)) (G (t + 4)) (G (t + 6)) i) (G (t + 7) i) g) (va_cwS 3 hts (zgS zbw mlRX10_59 stX4_secondsTrying iniRX4 coX4_secondsTrying) rfl rfl rfl (by decide +kernel) ⟨Nat.le_of_ble_eq_true rfl, Nat.le_of_ble_eq_true rfl⟩) rfl hl.1 rfl (Nat.le_of_ble_eq_true rfl) dX10_run_56 ⟨Nat.zero_le _, Nat.zero_le _⟩ (fun r2 G2 H locs hw2 hP hS => ?_)
        obtain ⟨rfl, rfl⟩ := hw2
        refine z_iast C0 hP hD hS (k := (t + 8)) (i := i) (v := (s_sec (s_plain (G (t + 2)) (G (t + 3)) (G (t + 4)) (G (t + 6)) i) (G (t + 7) i) g)) (F := G1 (t + 8)) (rfl) (ht (8, 11, 10) (by decide)).1 (Nat.lt_of_lt_of_eq (show i < 10 by omega) (ht (8, 11, 10) (by decide)).2.symm) rfl dX10_run_59 (fun H locs hP hS => ?_)
        refine lv_aload_n hx hb dX10_run_60 rfl (lv_at hl 1 rfl) ?_
        refine z_get C0 hP (C := RX10) (T := TX10) (N := 6) (ci := 8) (index := 12) (k := t) (ref := "WetSuitPedalsShoes$Trial") (zk_lt (ht (0, 8, 6) (by decide)).1 (by decide)) (zd_8 E (ht (0, 8, 6) (by decide)).1 _) rfl (zmi inU_10) 0 (by decide) (zm flRX10_12) rfl (v := .ref (E.1 (t + 1))) (rfl) dX10_run_61 ?_
        refine z_get C0 hP (C := RX1) (T := TX1) (N := 4) (ci := 1) (index := 65) (k := (t + 1)) (ref := "WetSuitPedalsShoes$Course") (zk_lt (ht (1, 1, 4) (by decide)).1 (by decide)) (zd_1 E (ht (1, 1, 4) (by decide)).1 _) rfl (zmi inU_1) 1 (by decide) (zm flRX10_65) rfl (v := .ref (E.1 (t + 2))) (rfl) dX10_run_64 ?_
        refine lv_iload_n hx hb dX10_run_67 rfl (lv_at hl 4 rfl) ?_
        refine z_iald C0 hP (k := (t + 2)) (i := i) (v := (G (t + 2) i)) (ht (2, 11, 10) (by decide)).1 (Nat.lt_of_lt_of_eq (show i < 10 by omega) (ht (2, 11, 10) (by decide)).2.symm) rfl dX10_run_68 (congrFun ((g1_n (by omega)).trans (hF1 _ (by omega))) _) ?_
        refine lv_aload_n hx hb dX10_run_69 rfl (lv_at hl 1 rfl) ?_
        refine z_get C0 hP (C := RX10) (T := TX10) (N := 6) (ci := 8) (index := 12) (k := t) (ref := "WetSuitPedalsShoes$Trial") (zk_lt (ht (0, 8, 6) (by decide)).1 (by decide)) (zd_8 E (ht (0, 8, 6) (by decide)).1 _) rfl (zmi inU_10) 0 (by decide) (zm flRX10_12) rfl (v := .ref (E.1 (t + 1))) (rfl) dX10_run_70 ?_
        refine z_get C0 hP (C := RX1) (T := TX1) (N := 4) (ci := 1) (index := 68) (k := (t + 1)) (ref := "WetSuitPedalsShoes$Course") (zk_lt (ht (1, 1, 4) (by decide)).1 (by decide)) (zd_1 E (ht (1, 1, 4) (by decide)).1 _) rfl (zmi inU_1) 3 (by decide) (zm flRX10_68) rfl (v := .ref (E.1 (t + 4))) (rfl) dX10_run_73 ?_
        refine lv_iload_n hx hb dX10_run_76 rfl (lv_at hl 4 rfl) ?_
        refine z_iald C0 hP (k := (t + 4)) (i := i) (v := (G (t + 4) i)) (ht (4, 11, 10) (by decide)).1 (Nat.lt_of_lt_of_eq (show i < 10 by omega) (ht (4, 11, 10) (by decide)).2.symm) rfl dX10_run_77 (congrFun ((g1_n (by omega)).trans (hF1 _ (by omega))) _) ?_
        refine lv_iload hx hb dX10_run_78 (lv_at hl 0 rfl) ?_
        refine lv_iload_n hx hb dX10_run_80 rfl (lv_at hl 2 rfl) ?_
        refine z_Si C0 hP hD hA hS (As := [.int (G (t + 2) i), .int (G (t + 4) i), .int (G (t + 7) i), .int g]) (rest := []) (c_X4_legsBehind l E _ (G (t + 2) i) (G (t + 4) i) (G (t + 7) i) g) (va_cwS 4 hts (zgS zbw mlRX10_71 stX4_legsBehind iniRX4 coX4_legsBehind) rfl rfl rfl (by decide +kernel) ⟨Nat.le_of_ble_eq_true rfl, Nat.le_of_ble_eq_true rfl⟩) rfl hl.1 rfl (Nat.le_of_ble_eq_true rfl) dX10_run_81 ⟨Nat.zero_le _, Nat.zero_le _⟩ (fun r3 G3 H locs hw3 hP hS => ?_)
        obtain ⟨rfl, rfl⟩ := hw3
        refine lv_istore_n (lv' := [(1, .int (s_leg (G (t + 2) i) (G (t + 4) i) (G (t + 7) i) g)), (4, .int (G (t + 7) i)), (0, .ref (E.1 t)), (2, .int sm), (3, .int (nI i))]) hx hb dX10_run_84 rfl hl (by decide) rfl (fun ls hl => ?_)
        refine lv_iload_n hx hb dX10_run_85 rfl (lv_at hl 4 rfl) ?_
        refine lv_aload_n hx hb dX10_run_86 rfl (lv_at hl 2 rfl) ?_
        refine z_get C0 hP (C := RX10) (T := TX10) (N := 6) (ci := 8) (index := 25) (k := t) (ref := "WetSuitPedalsShoes$Trial") (zk_lt (ht (0, 8, 6) (by decide)).1 (by decide)) (zd_8 E (ht (0, 8, 6) (by decide)).1 _) rfl (zmi inU_10) 2 (by decide) (zm flRX10_25) rfl (v := .int (G t 2)) (congrArg (fun z => some (Value.int z)) (congrFun ((g1_n (by omega)).trans (hF1 _ (by omega))) _)) dX10_run_87 ?_
        refine lv_icmp_ne (tgt := 103) hx hb dX10_run_90 (by decide) (fun c_90 => ?_) (fun c_90 => ?_)
        · skip
          refine lv_iload_n hx hb dX10_run_103 rfl (lv_at hl 3 rfl) ?_
          refine lv_aload_n hx hb dX10_run_104 rfl (lv_at hl 2 rfl) ?_
          refine z_get C0 hP (C := RX10) (T := TX10) (N := 6) (ci := 8) (index := 29) (k := t) (ref := "WetSuitPedalsShoes$Trial") (zk_lt (ht (0, 8, 6) (by decide)).1 (by decide)) (zd_8 E (ht (0, 8, 6) (by decide)).1 _) rfl (zmi inU_10) 3 (by decide) (zm flRX10_29) rfl (v := .ref (E.1 (t + 8))) (rfl) dX10_run_105 ?_
          refine lv_iload_n hx hb dX10_run_108 rfl (lv_at hl 4 rfl) ?_
          refine z_iald C0 hP (k := (t + 8)) (i := i) (v := (s_sec (s_plain (G (t + 2)) (G (t + 3)) (G (t + 4)) (G (t + 6)) i) (G (t + 7) i) g)) (ht (8, 11, 10) (by decide)).1 (Nat.lt_of_lt_of_eq (show i < 10 by omega) (ht (8, 11, 10) (by decide)).2.symm) rfl dX10_run_109 ((congrFun (g1_s _ _ _) _).trans (pk_us)) ?_
          refine lv_iadd hx hb dX10_run_110 ?_
          refine lv_istore_n (lv' := [(2, .int (sm + (s_sec (s_plain (G (t + 2)) (G (t + 3)) (G (t + 4)) (G (t + 6)) i) (G (t + 7) i) g))), (1, .int (s_leg (G (t + 2) i) (G (t + 4) i) (G (t + 7) i) g)), (4, .int (G (t + 7) i)), (0, .ref (E.1 t)), (3, .int (nI i))]) hx hb dX10_run_111 rfl hl (by decide) rfl (fun ls hl => ?_)
          refine lv_aload_n hx hb dX10_run_112 rfl (lv_at hl 3 rfl) ?_
          refine z_get C0 hP (C := RX10) (T := TX10) (N := 6) (ci := 8) (index := 33) (k := t) (ref := "WetSuitPedalsShoes$Trial") (zk_lt (ht (0, 8, 6) (by decide)).1 (by decide)) (zd_8 E (ht (0, 8, 6) (by decide)).1 _) rfl (zmi inU_10) 4 (by decide) (zm flRX10_33) rfl (v := .ref (E.1 (t + 9))) (rfl) dX10_run_113 ?_
          refine lv_iload_n hx hb dX10_run_116 rfl (lv_at hl 4 rfl) ?_
          refine lv_iload_n hx hb dX10_run_117 rfl (lv_at hl 1 rfl) ?_
          refine z_iast C0 hP hD hS (k := (t + 9)) (i := i) (v := (s_leg (G (t + 2) i) (G (t + 4) i) (G (t + 7) i) g)) (F := G1 (t + 9)) (g1_n (by omega)) (ht (9, 11, 10) (by decide)).1 (Nat.lt_of_lt_of_eq (show i < 10 by omega) (ht (9, 11, 10) (by decide)).2.symm) rfl dX10_run_118 (fun H locs hP hS => ?_)
          refine lv_aload_n hx hb dX10_run_119 rfl (lv_at hl 3 rfl) ?_
          refine z_get C0 hP (C := RX10) (T := TX10) (N := 6) (ci := 8) (index := 36) (k := t) (ref := "WetSuitPedalsShoes$Trial") (zk_lt (ht (0, 8, 6) (by decide)).1 (by decide)) (zd_8 E (ht (0, 8, 6) (by decide)).1 _) rfl (zmi inU_10) 5 (by decide) (zm flRX10_36) rfl (v := .ref (E.1 (t + 10))) (rfl) dX10_run_120 ?_
          refine lv_iload_n hx hb dX10_run_123 rfl (lv_at hl 4 rfl) ?_
          refine lv_iload_n hx hb dX10_run_124 rfl (lv_at hl 0 rfl) ?_
          refine z_iast C0 hP hD hS (k := (t + 10)) (i := i) (v := (sm + (s_sec (s_plain (G (t + 2)) (G (t + 3)) (G (t + 4)) (G (t + 6)) i) (G (t + 7) i) g))) (F := G1 (t + 10)) ((g1_n (by omega)).trans (g1_n (by omega))) (ht (10, 11, 10) (by decide)).1 (Nat.lt_of_lt_of_eq (show i < 10 by omega) (ht (10, 11, 10) (by decide)).2.symm) rfl dX10_run_125 (fun H locs hP hS => ?_)
          refine lv_iinc (v := (nI (i + 1))) (lv' := [(3, .int (nI (i + 1))), (2, .int (sm + (s_sec (s_plain (G (t + 2)) (G (t + 3)) (G (t + 4)) (G (t + 6)) i) (G (t + 7) i) g))), (1, .int (s_leg (G (t + 2) i) (G (t + 4) i) (G (t + 7) i) g)), (4, .int (G (t + 7) i)), (0, .ref (E.1 t))]) hx hb dX10_run_126 hl (k := 4) rfl (z_inc (by decide)) (by decide) rfl (fun ls hl => ?_)
          refine lv_goto (tgt := 14) hx hb dX10_run_129 (by decide) ?_
          exact ih_14 (i + 1) (s_leg (G (t + 2) i) (G (t + 4) i) (G (t + 7) i) g) (sm + (s_sec (s_plain (G (t + 2)) (G (t + 3)) (G (t + 4)) (G (t + 6)) i) (G (t + 7) i) g)) (g1 (g1 (g1 G1 (t + 8) (upd (G1 (t + 8)) i (s_sec (s_plain (G (t + 2)) (G (t + 3)) (G (t + 4)) (G (t + 6)) i) (G (t + 7) i) g))) (t + 9) (upd (G1 (t + 9)) i (s_leg (G (t + 2) i) (G (t + 4) i) (G (t + 7) i) g))) (t + 10) (upd (G1 (t + 10)) i (sm + (s_sec (s_plain (G (t + 2)) (G (t + 3)) (G (t + 4)) (G (t + 6)) i) (G (t + 7) i) g)))) _ _ _ (by first | assumption | omega) (by subst hg; simp [zt_run, s_run, c_22, c_90]) (by subst hg; subst hsm; simp [zt_run, s_run]) (by intro k hk; rw [g1_n (by omega)]; rw [g1_n (by omega)]; rw [g1_n (by omega)]; exact hF1 k hk) (by subst hg; subst hsm; intro j hj; rcases Nat.lt_or_ge j i with q | q; (exact ⟨(congrFun ((g1_n (by omega)).trans ((g1_n (by omega)).trans (g1_s _ _ _))) j).trans ((pk_un (by omega)).trans (hrow j q).1), (congrFun ((g1_n (by omega)).trans (g1_s _ _ _)) j).trans ((pk_un (by omega)).trans (hrow j q).2.1), (congrFun (g1_s _ _ _) j).trans ((pk_un (by omega)).trans (hrow j q).2.2)⟩); (have e9 : j = i := by omega); (subst e9; exact ⟨(congrFun ((g1_n (by omega)).trans ((g1_n (by omega)).trans (g1_s _ _ _))) _).trans (pk_us.trans (by simp [zt_run, zt_sc, s_run, s_sc, c_22, c_90])), (congrFun ((g1_n (by omega)).trans (g1_s _ _ _)) _).trans (pk_us.trans (by simp [zt_run, zt_sc, s_run, s_sc, c_22, c_90])), (congrFun (g1_s _ _ _) _).trans (pk_us.trans (by simp [zt_run, zt_sc, s_run, s_sc, c_22, c_90]))⟩)) hP hS (lv_sub hl [4, 2, 1, 0] rfl) (by omega)
        · skip
          refine lv_bipush (v := (99 : Int32)) hx hb dX10_run_93 (by decide) ?_
          refine lv_iload_n hx hb dX10_run_95 rfl (lv_at hl 0 rfl) ?_
          refine lv_bipush (v := (20 : Int32)) hx hb dX10_run_96 (by decide) ?_
          refine lv_iadd hx hb dX10_run_98 ?_
          refine va_mmin hx hb (C0.2.2.1.trans hl.1.symm) C0.2.2.2.1 (hts _ (zm mlRX10_75)) (hts _ (zm sMath_min)) (hts _ (zm iniMath)) (hts _ (zm coMath_min)) (Nat.le_of_ble_eq_true rfl) (Nat.le_of_ble_eq_true rfl) (Nat.zero_le _) (Nat.zero_le _) dX10_run_99 ?_
          refine z_eqi (y := (s_mn (99 : Int32) ((s_leg (G (t + 2) i) (G (t + 4) i) (G (t + 7) i) g) + (20 : Int32)))) (by unfold s_mn; congr) ?_
          refine lv_istore_n (lv' := [(1, .int (s_mn (99 : Int32) ((s_leg (G (t + 2) i) (G (t + 4) i) (G (t + 7) i) g) + (20 : Int32)))), (4, .int (G (t + 7) i)), (0, .ref (E.1 t)), (2, .int sm), (3, .int (nI i))]) hx hb dX10_run_102 rfl hl (by decide) rfl (fun ls hl => ?_)
          refine lv_iload_n hx hb dX10_run_103 rfl (lv_at hl 3 rfl) ?_
          refine lv_aload_n hx hb dX10_run_104 rfl (lv_at hl 2 rfl) ?_
          refine z_get C0 hP (C := RX10) (T := TX10) (N := 6) (ci := 8) (index := 29) (k := t) (ref := "WetSuitPedalsShoes$Trial") (zk_lt (ht (0, 8, 6) (by decide)).1 (by decide)) (zd_8 E (ht (0, 8, 6) (by decide)).1 _) rfl (zmi inU_10) 3 (by decide) (zm flRX10_29) rfl (v := .ref (E.1 (t + 8))) (rfl) dX10_run_105 ?_
          refine lv_iload_n hx hb dX10_run_108 rfl (lv_at hl 4 rfl) ?_
          refine z_iald C0 hP (k := (t + 8)) (i := i) (v := (s_sec (s_plain (G (t + 2)) (G (t + 3)) (G (t + 4)) (G (t + 6)) i) (G (t + 7) i) g)) (ht (8, 11, 10) (by decide)).1 (Nat.lt_of_lt_of_eq (show i < 10 by omega) (ht (8, 11, 10) (by decide)).2.symm) rfl dX10_run_109 ((congrFun (g1_s _ _ _) _).trans (pk_us)) ?_
          refine lv_iadd hx hb dX10_run_110 ?_
          refine lv_istore_n (lv' := [(2, .int (sm + (s_sec (s_plain (G (t + 2)) (G (t + 3)) (G (t + 4)) (G (t + 6)) i) (G (t + 7) i) g))), (1, .int (s_mn (99 : Int32) ((s_leg (G (t + 2) i) (G (t + 4) i) (G (t + 7) i) g) + (20 : Int32)))), (4, .int (G (t + 7) i)), (0, .ref (E.1 t)), (3, .int (nI i))]) hx hb dX10_run_111 rfl hl (by decide) rfl (fun ls hl => ?_)
          refine lv_aload_n hx hb dX10_run_112 rfl (lv_at hl 3 rfl) ?_
          refine z_get C0 hP (C := RX10) (T := TX10) (N := 6) (ci := 8) (index := 33) (k := t) (ref := "WetSuitPedalsShoes$Trial") (zk_lt (ht (0, 8, 6) (by decide)).1 (by decide)) (zd_8 E (ht (0, 8, 6) (by decide)).1 _) rfl (zmi inU_10) 4 (by decide) (zm flRX10_33) rfl (v := .ref (E.1 (t + 9))) (rfl) dX10_run_113 ?_
          refine lv_iload_n hx hb dX10_run_116 rfl (lv_at hl 4 rfl) ?_
          refine lv_iload_n hx hb dX10_run_117 rfl (lv_at hl 1 rfl) ?_
          refine z_iast C0 hP hD hS (k := (t + 9)) (i := i) (v := (s_mn (99 : Int32) ((s_leg (G (t + 2) i) (G (t + 4) i) (G (t + 7) i) g) + (20 : Int32)))) (F := G1 (t + 9)) (g1_n (by omega)) (ht (9, 11, 10) (by decide)).1 (Nat.lt_of_lt_of_eq (show i < 10 by omega) (ht (9, 11, 10) (by decide)).2.symm) rfl dX10_run_118 (fun H locs hP hS => ?_)
          refine lv_aload_n hx hb dX10_run_119 rfl (lv_at hl 3 rfl) ?_
          refine z_get C0 hP (C := RX10) (T := TX10) (N := 6) (ci := 8) (index := 36) (k := t) (ref := "WetSuitPedalsShoes$Trial") (zk_lt (ht (0, 8, 6) (by decide)).1 (by decide)) (zd_8 E (ht (0, 8, 6) (by decide)).1 _) rfl (zmi inU_10) 5 (by decide) (zm flRX10_36) rfl (v := .ref (E.1 (t + 10))) (rfl) dX10_run_120 ?_
          refine lv_iload_n hx hb dX10_run_123 rfl (lv_at hl 4 rfl) ?_
          refine lv_iload_n hx hb dX10_run_124 rfl (lv_at hl 0 rfl) ?_
          refine z_iast C0 hP hD hS (k := (t + 10)) (i := i) (v := (sm + (s_sec (s_plain (G (t + 2)) (G (t + 3)) (G (t + 4)) (G (t + 6)) i) (G (t + 7) i) g))) (F := G1 (t + 10)) ((g1_n (by omega)).trans (g1_n (by omega))) (ht (10, 11, 10) (by decide)).1 (Nat.lt_of_lt_of_eq (show i < 10 by omega) (ht (10, 11, 10) (by decide)).2.symm) rfl dX10_run_125 (fun H locs hP hS => ?_)
          refine lv_iinc (v := (nI (i + 1))) (lv' := [(3, .int (nI (i + 1))), (2, .int (sm + (s_sec (s_plain (G (t + 2)) (G (t + 3)) (G (t + 4)) (G (t + 6)) i) (G (t + 7) i) g))), (1, .int (s_mn (99 : Int32) ((s_leg (G (t + 2) i) (G (t + 4) i) (G (t + 7) i) g) + (20 : Int32)))), (4, .int (G (t + 7) i)), (0, .ref (E.1 t))]) hx hb dX10_run_126 hl (k := 4) rfl (z_inc (by decide)) (by decide) rfl (fun ls hl => ?_)
          refine lv_goto (tgt := 14) hx hb dX10_run_129 (by decide) ?_
          exact ih_14 (i + 1) (s_mn (99 : Int32) ((s_leg (G (t + 2) i) (G (t + 4) i) (G (t + 7) i) g) + (20 : Int32))) (sm + (s_sec (s_plain (G (t + 2)) (G (t + 3)) (G (t + 4)) (G (t + 6)) i) (G (t + 7) i) g)) (g1 (g1 (g1 G1 (t + 8) (upd (G1 (t + 8)) i (s_sec (s_plain (G (t + 2)) (G (t + 3)) (G (t + 4)) (G (t + 6)) i) (G (t + 7) i) g))) (t + 9) (upd (G1 (t + 9)) i (s_mn (99 : Int32) ((s_leg (G (t + 2) i) (G (t + 4) i) (G (t + 7) i) g) + (20 : Int32))))) (t + 10) (upd (G1 (t + 10)) i (sm + (s_sec (s_plain (G (t + 2)) (G (t + 3)) (G (t + 4)) (G (t + 6)) i) (G (t + 7) i) g)))) _ _ _ (by first | assumption | omega) (by subst hg; simp [zt_run, s_run, c_22, c_90]) (by subst hg; subst hsm; simp [zt_run, s_run]) (by intro k hk; rw [g1_n (by omega)]; rw [g1_n (by omega)]; rw [g1_n (by omega)]; exact hF1 k hk) (by subst hg; subst hsm; intro j hj; rcases Nat.lt_or_ge j i with q | q; (exact ⟨(congrFun ((g1_n (by omega)).trans ((g1_n (by omega)).trans (g1_s _ _ _))) j).trans ((pk_un (by omega)).trans (hrow j q).1), (congrFun ((g1_n (by omega)).trans (g1_s _ _ _)) j).trans ((pk_un (by omega)).trans (hrow j q).2.1), (congrFun (g1_s _ _ _) j).trans ((pk_un (by omega)).trans (hrow j q).2.2)⟩); (have e9 : j = i := by omega); (subst e9; exact ⟨(congrFun ((g1_n (by omega)).trans ((g1_n (by omega)).trans (g1_s _ _ _))) _).trans (pk_us.trans (by simp [zt_run, zt_sc, s_run, s_sc, c_22, c_90])), (congrFun ((g1_n (by omega)).trans (g1_s _ _ _)) _).trans (pk_us.trans (by simp [zt_run, zt_sc, s_run, s_sc, c_22, c_90])), (congrFun (g1_s _ _ _) _).trans (pk_us.trans (by simp [zt_run, zt_sc, s_run, s_sc, c_22, c_90]))⟩)) hP hS (lv_sub hl [4, 2, 1, 0] rfl) (by omega)
  exact cut_14 (_ + 1) 0 (G (t + 6) 3) (0 : Int32) G _ _ _ (by first | assumption | omega) (by rfl) (by rfl) (by exact fun _ _ => rfl) (by exact fun j hj => absurd hj (Nat.not_lt_zero j)) hP hS (lv_sub hl [3, 2, 1, 0] rfl) (Nat.lt_succ_self _)
