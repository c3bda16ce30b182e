/-! laid by wip/whole/vcg.py -/
theorem flRX8_9 : Cond.fieldLink RX8 9 "WetSuitPedalsShoes$Row" "many" "I" ∈ zU := zU_m 165 (by decide +kernel) rfl
set_option maxHeartbeats 4000000 in
set_option maxRecDepth 100000 in
theorem c_X8_forget (l : Launch) (E : zE) (G : zG) (m : Nat) (hm : G 45 0 = nI m) : zMi l yX8_forget wsX8_forget ({ frames := 0, cells := 0, slots := 0, locals := 0 } : Room) E G [.ref (E.1 45)] (fun r1 G1 => nI m = r1 ∧ (∀ k, (k < 45 ∨ 45 < k) → G1 k = G k) ∧ G1 45 = upd (G 45) 0 0) := by
  refine zOf (cc := cX8_forget) (nL := 2) (ret := (some .int)) RX8 (by decide) rfl rfl (Nat.le_of_ble_eq_true rfl) ?_
  intro p_ e_ s_ m_ a_ b_ me_ c_ ls C0 hP hS hl
  have hx := C0.1
  have hb := C0.2.1
  have hts := C0.2.2.2.2.1
  have hD : zD E (zA E s_.heap.size) := C0.2.2.2.2.2.2.2.2
  have hA : ∀ q : Nat, s_.heap.size ≤ q → zA E s_.heap.size q := fun q h => Or.inr h
  refine z_gen (fun Q_ hQ_ => ?_)
  have hl : lv_has ls 2 [(0, .ref (E.1 45))] := hl
  refine lv_aload_n hx hb dX8_forget_0 rfl (lv_at hl 0 rfl) ?_
  refine z_get C0 hP (C := RX8) (T := TX8) (N := 2) (ci := 6) (index := 9) (k := 45) (ref := "WetSuitPedalsShoes$Row") (zk_lt (rfl : zk 45 = 6) (by decide)) (zd_6 E (rfl : zk 45 = 6) _) rfl (zmi inU_8) 0 (by decide) (zm flRX8_9) rfl (v := .int (nI m)) (congrArg (fun z => some (Value.int z)) (hm)) dX8_forget_1 ?_
  refine lv_istore_n (lv' := [(1, .int (nI m)), (0, .ref (E.1 45))]) hx hb dX8_forget_4 rfl hl (by decide) rfl (fun ls hl => ?_)
  refine lv_aload_n hx hb dX8_forget_5 rfl (lv_at hl 1 rfl) ?_
  refine lv_iconst (v := (0 : Int32)) hx hb dX8_forget_6 (by decide) ?_
  refine z_put C0 hP hD hS (C := RX8) (T := TX8) (N := 2) (ci := 6) (index := 9) (k := 45) (ref := "WetSuitPedalsShoes$Row") (F := G 45) (ty := .int) (rfl) tyX8 tyX8_ok nmX8 (zk_lt (rfl : zk 45 = 6) (by decide)) (zd_6 E (rfl : zk 45 = 6) _) rfl (zmi inU_8) 0 (by decide) (zm flRX8_9) rfl rfl (by decide +kernel) (by rfl) rfl (by show 0 < 2; decide) (upd (G 45) 0 (0 : Int32)) ((zd_6 E (rfl : zk 45 = 6) _).trans (rfl)) dX8_forget_7 (fun H locs hP hS => ?_)
  refine lv_iload_n hx hb dX8_forget_10 rfl (lv_at hl 0 rfl) ?_
  subst hQ_
  exact z_iret C0 hP hS (v := (nI m)) (by exact ⟨rfl, (fun k hk => g1_n (by omega)), g1_s _ _ _⟩) dX8_forget_11
theorem flRX11_33 : Cond.fieldLink RX11 33 "WetSuitPedalsShoes" "told" "LWetSuitPedalsShoes$Row;" ∈ zU := zU_m 276 (by decide +kernel) rfl
theorem mlRX11_267 : Cond.methodLink RX11 267 yX8_forget ∈ zU := zU_m 749 (by decide +kernel) rfl
theorem coX8_forget : Cond.code yX8_forget cX8_forget 2 (some .int) ∈ zU := zU_m 752 (by decide +kernel) rfl
theorem imX8_forget : Cond.instanceMethod yX8_forget ∈ zU := zU_m 750 (by decide +kernel) rfl
theorem seX8_forget : Cond.selects RX8 yX8_forget yX8_forget ∈ zU := zU_m 751 (by decide +kernel) rfl
theorem iniRX8 : Cond.initialized RX8 ∈ zU := zU_m 53 (by decide +kernel) rfl
set_option maxHeartbeats 4000000 in
set_option maxRecDepth 100000 in
theorem c_X11_clear (l : Launch) (E : zE) (G : zG) (m : Nat) (hm : G 45 0 = nI m) : zMi l yX11_clear wsX11_clear ({ frames := 1, cells := 0, slots := 0, locals := 21 } : Room) E G [.ref (E.1 0)] (fun r1 G1 => nI m = r1 ∧ (∀ k, (k < 45 ∨ 45 < k) → G1 k = G k) ∧ G1 45 = upd (G 45) 0 0) := by
  refine zOf (cc := cX11_clear) (nL := 1) (ret := (some .int)) RX11 (by decide) rfl rfl (Nat.le_of_ble_eq_true rfl) ?_
  intro p_ e_ s_ m_ a_ b_ me_ c_ ls C0 hP hS hl
  have hx := C0.1
  have hb := C0.2.1
  have hts := C0.2.2.2.2.1
  have hD : zD E (zA E s_.heap.size) := C0.2.2.2.2.2.2.2.2
  have hA : ∀ q : Nat, s_.heap.size ≤ q → zA E s_.heap.size q := fun q h => Or.inr h
  refine z_gen (fun Q_ hQ_ => ?_)
  have hl : lv_has ls 1 [(0, .ref (E.1 0))] := hl
  refine lv_aload_n hx hb dX11_clear_0 rfl (lv_at hl 0 rfl) ?_
  refine z_get C0 hP (C := RX11) (T := TX11) (N := 11) (ci := 9) (index := 33) (k := 0) (ref := "WetSuitPedalsShoes") (zk_lt (rfl : zk 0 = 9) (by decide)) (zd_9 E (rfl : zk 0 = 9) _) rfl (zmi inU_11) 4 (by decide) (zm flRX11_33) rfl (v := .ref (E.1 45)) (rfl) dX11_clear_1 ?_
  refine z_Vi C0 hP hD hA hS (As := []) (rest := []) (k := 45) (c_X8_forget l E _ m hm) (cwV 0 hts (zgV zbw mlRX11_267 imX8_forget seX8_forget iniRX8 coX8_forget) rfl rfl rfl (by decide +kernel) ⟨Nat.le_of_ble_eq_true rfl, Nat.le_of_ble_eq_true rfl⟩) (zk_lt (rfl : zk 45 = 6) (by decide)) (zd_6 E (rfl : zk 45 = 6) _) rfl rfl rfl hl.1 rfl (Nat.le_of_ble_eq_true rfl) dX11_clear_4 ⟨Nat.zero_le _, Nat.zero_le _⟩ (fun r1 G1 H locs hw1 hP hS => ?_)
  obtain ⟨hr1, hF1, hro1⟩ := hw1
  subst hr1
  subst hQ_
  exact z_iret C0 hP hS (v := (nI m)) (by exact ⟨rfl, hF1, hro1⟩) dX11_clear_7
theorem flRX12_192 : Cond.fieldLink RX12 192 "WetSuitPedalsShoesModel" "rowMany" "I" ∈ zU := zU_m 817 (by decide +kernel) rfl
set_option maxHeartbeats 4000000 in
set_option maxRecDepth 100000 in
theorem c_X12_clear (l : Launch) (E : zE) (G : zG) (m : Nat) (hm : G 92 9 = nI m) : zMi l yX12_clear wsX12_clear ({ frames := 0, cells := 0, slots := 0, locals := 0 } : Room) E G [.ref (E.1 92)] (fun r1 G1 => nI m = r1 ∧ (∀ k, (k < 92 ∨ 92 < k) → G1 k = G k) ∧ G1 92 = upd (G 92) 9 0) := by
  refine zOf (cc := cX12_clear) (nL := 2) (ret := (some .int)) RX12 (by decide) rfl rfl (Nat.le_of_ble_eq_true rfl) ?_
  intro p_ e_ s_ m_ a_ b_ me_ c_ ls C0 hP hS hl
  have hx := C0.1
  have hb := C0.2.1
  have hts := C0.2.2.2.2.1
  have hD : zD E (zA E s_.heap.size) := C0.2.2.2.2.2.2.2.2
  have hA : ∀ q : Nat, s_.heap.size ≤ q → zA E s_.heap.size q := fun q h => Or.inr h
  refine z_gen (fun Q_ hQ_ => ?_)
  have hl : lv_has ls 2 [(0, .ref (E.1 92))] := hl
  refine lv_aload_n hx hb dX12_clear_0 rfl (lv_at hl 0 rfl) ?_
  refine z_get C0 hP (C := RX12) (T := TX12) (N := 21) (ci := 10) (index := 192) (k := 92) (ref := "WetSuitPedalsShoesModel") (zk_lt (rfl : zk 92 = 10) (by decide)) (zd_10 E (rfl : zk 92 = 10) _) rfl (zmi inU_12) 9 (by decide) (zm flRX12_192) rfl (v := .int (nI m)) (congrArg (fun z => some (Value.int z)) (hm)) dX12_clear_1 ?_
  refine lv_istore_n (lv' := [(1, .int (nI m)), (0, .ref (E.1 92))]) hx hb dX12_clear_4 rfl hl (by decide) rfl (fun ls hl => ?_)
  refine lv_aload_n hx hb dX12_clear_5 rfl (lv_at hl 1 rfl) ?_
  refine lv_iconst (v := (0 : Int32)) hx hb dX12_clear_6 (by decide) ?_
  refine z_put C0 hP hD hS (C := RX12) (T := TX12) (N := 21) (ci := 10) (index := 192) (k := 92) (ref := "WetSuitPedalsShoesModel") (F := G 92) (ty := .int) (rfl) tyX12 tyX12_ok nmX12 (zk_lt (rfl : zk 92 = 10) (by decide)) (zd_10 E (rfl : zk 92 = 10) _) rfl (zmi inU_12) 9 (by decide) (zm flRX12_192) rfl rfl (by decide +kernel) (by rfl) rfl (by show 9 < 21; decide) (upd (G 92) 9 (0 : Int32)) ((zd_10 E (rfl : zk 92 = 10) _).trans (rfl)) dX12_clear_7 (fun H locs hP hS => ?_)
  refine lv_iload_n hx hb dX12_clear_10 rfl (lv_at hl 0 rfl) ?_
  subst hQ_
  exact z_iret C0 hP hS (v := (nI m)) (by exact ⟨rfl, (fun k hk => g1_n (by omega)), g1_s _ _ _⟩) dX12_clear_11
