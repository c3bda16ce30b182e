theorem mlRX10_3 : Cond.methodLink RX10 3 objectInit ∈ zU := zU_m 179 (by decide +kernel) rfl
theorem clRX10_9 : Cond.classLink RX10 9 RX1 ∈ zU := zU_m 180 (by decide +kernel) rfl
theorem insRX1 : Cond.instantiable RX1 4 ∈ zU := zU_m 78 (by decide +kernel) rfl
theorem coX1_init : Cond.code yX1_init cX1_init 1 none ∈ zU := zU_m 81 (by decide +kernel) rfl
theorem imX1_init : Cond.instanceMethod yX1_init ∈ zU := zU_m 80 (by decide +kernel) rfl
theorem clRX10_18 : Cond.classLink RX10 18 RX0 ∈ zU := zU_m 182 (by decide +kernel) rfl
theorem insRX0 : Cond.instantiable RX0 2 ∈ zU := zU_m 111 (by decide +kernel) rfl
theorem coX0_init : Cond.code yX0_init cX0_init 1 none ∈ zU := zU_m 114 (by decide +kernel) rfl
theorem imX0_init : Cond.instanceMethod yX0_init ∈ zU := zU_m 113 (by decide +kernel) rfl
set_option maxHeartbeats 4000000 in
set_option maxRecDepth 100000 in
theorem i_X10 (l : Launch) : zI l yX10_init wsX10_init ({ frames := 2, cells := 10, slots := 80, locals := 33 } : Room) 8 [.null, .null, .int 0, .null, .null, .null] 48 11 10 80 := by
  intro E2 h0 sz
  refine Met.ofW (cc := cX10_init) (maxL := 1) (ret := none) (by decide) rfl ?_
  intro p e s m args below meth c s₁ B hml hv
  obtain ⟨rfl, hsz, hP, hK, hD0, hX⟩ := hv
  have hx := B.exec
  have hb := B.bytes
  have hr := B.returns
  have hts := atoms_spec (ws := wsX10_init) B.pre
  have hown : s.vm.findClass RX10 = some m.cls := findClass_of_methodNamed B.named
  have hin : meth.name = "<init>" := (name_of_methodNamed B.named B.method).1
  subst hsz
  have hD := hD0.self (sz := s.heap.size)
  generalize hAe : va_A [(h0, .inr (8, [.null, .null, .int 0, .null, .null, .null]))] s.heap.size = A at hD ⊢
  have hA : ∀ q : Nat, s.heap.size ≤ q → A q := fun q h => by rw [← hAe]; exact Or.inr h
  have hS : va_S A s.heap s.heap [] := va_S.rf
  have hl := lv_entry ([.ref h0]) (n := 1) (Nat.le_of_ble_eq_true rfl)
  rw [lg_entry_eq]
  generalize (lg_sl ([.ref h0]) ++ List.replicate (1 - (lg_sl ([.ref h0])).length) Slot.unset).toArray = ls at hl ⊢
  have hl : lv_has ls 1 [(0, .ref h0)] := hl
  refine lv_aload_n hx hb dX10_init_0 rfl (lv_at hl 0 rfl) ?_
  refine W.objInit hx hb hown (hts _ (zm mlRX10_3)) (hts _ (zm imObj)) (hts _ (zm coObj)) rfl (by rw [hml]; exact hl.1) rfl dX10_init_1 (Nat.le_of_ble_eq_true rfl) (Nat.le_of_ble_eq_true rfl) ?_
  refine W.eq (g2 := F0 m 4 ls []) rfl ?_
  refine lv_aload_n hx hb dX10_init_4 rfl (lv_at hl 0 rfl) ?_
  refine va_new (ci := 1) (fs := [.int 0, .null, .null, .null]) (C := RX1) (T := TX1) (N := 4) hx hb hts (zmi inU_1) tyX1 tyX1_ok hown (hts _ (zm clRX10_9)) (hts _ (zm insRX1)) (hts _ (zm iniRX1)) hK hP hD hS hA rfl (fun j hj => by rcases (show j = 0 ∨ j = 1 ∨ j = 2 ∨ j = 3 by omega) with rfl | rfl | rfl | rfl <;> rfl) (Nat.le_of_ble_eq_true rfl) (Nat.le_of_ble_eq_true rfl) dX10_init_5 (fun q5 H hP hD hS => ?_)
  refine W.widen (k := 1) (n := 4) (Nat.le_of_ble_eq_true rfl) (Nat.le_of_ble_eq_true rfl) ?_
  refine lv_dup hx hb dX10_init_8 rfl ?_
  refine zn_N (ws := [(h0, .inr (8, [.null, .null, .int 0, .null, .null, .null]))]) (E2 := E2) ⟨hx, hb, hml, hown, hts⟩ (i_X1 l) ⟨va_cnB 0 hts (zU_in zbw (zw_zU coX1_init)) rfl rfl rfl (hX.1 (RX10, 11, yX1_init) (List.mem_of_getElem? (i := 5) rfl)) (hts _ (zm iniRX1)) (by decide +kernel) ⟨Nat.le_of_ble_eq_true rfl, Nat.le_of_ble_eq_true rfl⟩, rfl, hts _ (zm imX1_init)⟩ hK hX hP hD hS hA hl.1 (Nat.le_of_ble_eq_true rfl) dX10_init_9 ⟨Nat.le_of_ble_eq_true rfl, Nat.le_of_ble_eq_true rfl⟩ (fun f9 H locs f90 hP hD hS => ?_)
  rw [← f90]
  refine W.widen (k := 4) (n := 34) (Nat.le_of_ble_eq_true rfl) (Nat.le_of_ble_eq_true rfl) ?_
  refine va_putF (D := E2.2) (ci := 8) (v := .ref (f9 0)) (ty := (.object "WetSuitPedalsShoes$Course")) (C := RX10) (T := TX10) (N := 6) hx hb hts (zmi inU_10) tyX10 tyX10_ok nmX10 hown hK hP hD hS 0 rfl rfl 0 (by decide) (hts _ (zm flRX10_12)) (fun _ h9 => h9) rfl hin rfl (by decide +kernel) rfl rfl (Nat.le_of_ble_eq_true rfl) dX10_init_12 (fun H locs hP hD hS => ?_)
  have hP : va_P E2.2 vwCl ([(h0, .inr (8, [.ref (f9 0), .null, .int 0, .null, .null, .null]))] ++ zS E2 2 4 f9) H := hP
  have hD : va_D A ([(h0, .inr (8, [.ref (f9 0), .null, .int 0, .null, .null, .null]))] ++ zS E2 2 4 f9) := hD
  refine lv_aload_n hx hb dX10_init_15 rfl (lv_at hl 0 rfl) ?_
  refine va_new (ci := 0) (fs := [.null, .null]) (C := RX0) (T := TX0) (N := 2) hx hb hts (zmi inU_0) tyX0 tyX0_ok hown (hts _ (zm clRX10_18)) (hts _ (zm insRX0)) (hts _ (zm iniRX0)) hK hP hD hS hA rfl (fun j hj => by rcases (show j = 0 ∨ j = 1 by omega) with rfl | rfl <;> rfl) (Nat.le_of_ble_eq_true rfl) (Nat.le_of_ble_eq_true rfl) dX10_init_16 (fun q16 H hP hD hS => ?_)
  refine W.widen (k := 5) (n := 36) (Nat.le_of_ble_eq_true rfl) (Nat.le_of_ble_eq_true rfl) ?_
  refine lv_dup hx hb dX10_init_19 rfl ?_
  refine zn_N (ws := [(h0, .inr (8, [.ref (f9 0), .null, .int 0, .null, .null, .null]))] ++ zS E2 2 4 f9) (E2 := E2) ⟨hx, hb, hml, hown, hts⟩ (i_X0 l) ⟨va_cnB 0 hts (zU_in zbw (zw_zU coX0_init)) rfl rfl rfl (hX.1 (RX10, 20, yX0_init) (List.mem_of_getElem? (i := 6) rfl)) (hts _ (zm iniRX0)) (by decide +kernel) ⟨Nat.le_of_ble_eq_true rfl, Nat.le_of_ble_eq_true rfl⟩, rfl, hts _ (zm imX0_init)⟩ hK hX hP hD hS hA hl.1 (Nat.le_of_ble_eq_true rfl) dX10_init_20 ⟨Nat.le_of_ble_eq_true rfl, Nat.le_of_ble_eq_true rfl⟩ (fun f20 H locs f200 hP hD hS => ?_)
  rw [← f200]
  refine W.widen (k := 7) (n := 50) (Nat.le_of_ble_eq_true rfl) (Nat.le_of_ble_eq_true rfl) ?_
  refine va_putF (D := E2.2) (ci := 8) (v := .ref (f20 0)) (ty := (.object "WetSuitPedalsShoes$Athlete")) (C := RX10) (T := TX10) (N := 6) hx hb hts (zmi inU_10) tyX10 tyX10_ok nmX10 hown hK hP hD hS 0 rfl rfl 1 (by decide) (hts _ (zm flRX10_21)) (fun _ h9 => h9) rfl hin rfl (by decide +kernel) rfl rfl (Nat.le_of_ble_eq_true rfl) dX10_init_23 (fun H locs hP hD hS => ?_)
  have hP : va_P E2.2 vwCl ([(h0, .inr (8, [.ref (f9 0), .ref (f20 0), .int 0, .null, .null, .null]))] ++ zS E2 2 4 f9 ++ zS E2 7 3 f20) H := hP
  have hD : va_D A ([(h0, .inr (8, [.ref (f9 0), .ref (f20 0), .int 0, .null, .null, .null]))] ++ zS E2 2 4 f9 ++ zS E2 7 3 f20) := hD
  refine lv_aload_n hx hb dX10_init_26 rfl (lv_at hl 0 rfl) ?_
  refine lv_bipush (v := (-9 : Int32)) hx hb dX10_init_27 (by decide) ?_
  refine va_put (D := E2.2) (ci := 8) (v := .int (-9 : Int32)) (ty := .int) (C := RX10) (T := TX10) (N := 6) hx hb hts (zmi inU_10) tyX10 tyX10_ok nmX10 hown hK hP hD hS 0 rfl rfl 2 (by decide) (hts _ (zm flRX10_25)) (fun _ h9 => h9) rfl (by decide +kernel) rfl rfl (Nat.le_of_ble_eq_true rfl) dX10_init_29 (fun H locs hP hD hS => ?_)
  have hP : va_P E2.2 vwCl ([(h0, .inr (8, [.ref (f9 0), .ref (f20 0), .int (-9), .null, .null, .null]))] ++ zS E2 2 4 f9 ++ zS E2 7 3 f20) H := hP
  have hD : va_D A ([(h0, .inr (8, [.ref (f9 0), .ref (f20 0), .int (-9), .null, .null, .null]))] ++ zS E2 2 4 f9 ++ zS E2 7 3 f20) := hD
  refine lv_aload_n hx hb dX10_init_32 rfl (lv_at hl 0 rfl) ?_
  refine lv_bipush (v := (10 : Int32)) hx hb dX10_init_33 (by decide) ?_
  refine zn_newa hx hb (hts _ (zm acI)) hK hP hD hS hA 10 rfl (Nat.le_of_ble_eq_true rfl) (Nat.le_of_ble_eq_true rfl) (Nat.le_of_ble_eq_true rfl) dX10_init_35 (fun q35 H hP hD hS => ?_)
  refine W.widen (k := 8) (n := 60) (Nat.le_of_ble_eq_true rfl) (Nat.le_of_ble_eq_true rfl) ?_
  refine va_putF (D := E2.2) (ci := 8) (v := .ref q35) (ty := (.array .int)) (C := RX10) (T := TX10) (N := 6) hx hb hts (zmi inU_10) tyX10 tyX10_ok nmX10 hown hK hP hD hS 0 rfl rfl 3 (by decide) (hts _ (zm flRX10_29)) (fun _ h9 => h9) rfl hin rfl (by decide +kernel) rfl rfl (Nat.le_of_ble_eq_true rfl) dX10_init_37 (fun H locs hP hD hS => ?_)
  have hP : va_P E2.2 vwCl ([(h0, .inr (8, [.ref (f9 0), .ref (f20 0), .int (-9), .ref q35, .null, .null]))] ++ zS E2 2 4 f9 ++ zS E2 7 3 f20 ++ [(q35, .inl (E2.1.1, 10, .inl (fun _ => 0)))]) H := hP
  have hD : va_D A ([(h0, .inr (8, [.ref (f9 0), .ref (f20 0), .int (-9), .ref q35, .null, .null]))] ++ zS E2 2 4 f9 ++ zS E2 7 3 f20 ++ [(q35, .inl (E2.1.1, 10, .inl (fun _ => 0)))]) := hD
  refine lv_aload_n hx hb dX10_init_40 rfl (lv_at hl 0 rfl) ?_
  refine lv_bipush (v := (10 : Int32)) hx hb dX10_init_41 (by decide) ?_
  refine zn_newa hx hb (hts _ (zm acI)) hK hP hD hS hA 10 rfl (Nat.le_of_ble_eq_true rfl) (Nat.le_of_ble_eq_true rfl) (Nat.le_of_ble_eq_true rfl) dX10_init_43 (fun q43 H hP hD hS => ?_)
  refine W.widen (k := 9) (n := 70) (Nat.le_of_ble_eq_true rfl) (Nat.le_of_ble_eq_true rfl) ?_
  refine va_putF (D := E2.2) (ci := 8) (v := .ref q43) (ty := (.array .int)) (C := RX10) (T := TX10) (N := 6) hx hb hts (zmi inU_10) tyX10 tyX10_ok nmX10 hown hK hP hD hS 0 rfl rfl 4 (by decide) (hts _ (zm flRX10_33)) (fun _ h9 => h9) rfl hin rfl (by decide +kernel) rfl rfl (Nat.le_of_ble_eq_true rfl) dX10_init_45 (fun H locs hP hD hS => ?_)
  have hP : va_P E2.2 vwCl ([(h0, .inr (8, [.ref (f9 0), .ref (f20 0), .int (-9), .ref q35, .ref q43, .null]))] ++ zS E2 2 4 f9 ++ zS E2 7 3 f20 ++ [(q35, .inl (E2.1.1, 10, .inl (fun _ => 0)))] ++ [(q43, .inl (E2.1.1, 10, .inl (fun _ => 0)))]) H := hP
  have hD : va_D A ([(h0, .inr (8, [.ref (f9 0), .ref (f20 0), .int (-9), .ref q35, .ref q43, .null]))] ++ zS E2 2 4 f9 ++ zS E2 7 3 f20 ++ [(q35, .inl (E2.1.1, 10, .inl (fun _ => 0)))] ++ [(q43, .inl (E2.1.1, 10, .inl (fun _ => 0)))]) := hD
  refine lv_aload_n hx hb dX10_init_48 rfl (lv_at hl 0 rfl) ?_
  refine lv_bipush (v := (10 : Int32)) hx hb dX10_init_49 (by decide) ?_
  refine zn_newa hx hb (hts _ (zm acI)) hK hP hD hS hA 10 rfl (Nat.le_of_ble_eq_true rfl) (Nat.le_of_ble_eq_true rfl) (Nat.le_of_ble_eq_true rfl) dX10_init_51 (fun q51 H hP hD hS => ?_)
  refine W.widen (k := 10) (n := 80) (Nat.le_of_ble_eq_true rfl) (Nat.le_of_ble_eq_true rfl) ?_
  refine va_putF (D := E2.2) (ci := 8) (v := .ref q51) (ty := (.array .int)) (C := RX10) (T := TX10) (N := 6) hx hb hts (zmi inU_10) tyX10 tyX10_ok nmX10 hown hK hP hD hS 0 rfl rfl 5 (by decide) (hts _ (zm flRX10_36)) (fun _ h9 => h9) rfl hin rfl (by decide +kernel) rfl rfl (Nat.le_of_ble_eq_true rfl) dX10_init_53 (fun H locs hP hD hS => ?_)
  have hP : va_P E2.2 vwCl ([(h0, .inr (8, [.ref (f9 0), .ref (f20 0), .int (-9), .ref q35, .ref q43, .ref q51]))] ++ zS E2 2 4 f9 ++ zS E2 7 3 f20 ++ [(q35, .inl (E2.1.1, 10, .inl (fun _ => 0)))] ++ [(q43, .inl (E2.1.1, 10, .inl (fun _ => 0)))] ++ [(q51, .inl (E2.1.1, 10, .inl (fun _ => 0)))]) H := hP
  have hD : va_D A ([(h0, .inr (8, [.ref (f9 0), .ref (f20 0), .int (-9), .ref q35, .ref q43, .ref q51]))] ++ zS E2 2 4 f9 ++ zS E2 7 3 f20 ++ [(q35, .inl (E2.1.1, 10, .inl (fun _ => 0)))] ++ [(q43, .inl (E2.1.1, 10, .inl (fun _ => 0)))] ++ [(q51, .inl (E2.1.1, 10, .inl (fun _ => 0)))]) := hD
  have hPz : va_P E2.2 vwCl (zS E2 48 11 (fun j => [h0, (f9 0), (f9 1), (f9 2), (f9 3), (f20 0), (f20 1), (f20 2), q35, q43, q51].getD j 0)) H := hP
  have hDz : va_D A (zS E2 48 11 (fun j => [h0, (f9 0), (f9 1), (f9 2), (f9 3), (f20 0), (f20 1), (f20 2), q35, q43, q51].getD j 0)) := hD
  exact W.vret hx hb hr (fun t ht hW => ⟨⟨_, rfl, rfl, by rw [ht]; exact hPz, va_K.moved hW.alike hK, hDz⟩, hS.F ht⟩) hS.2.2 dX10_init_56
