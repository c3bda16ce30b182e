theorem mlRX3_3 : Cond.methodLink RX3 3 objectInit ∈ zU := zU_m 76 (by decide +kernel) rfl
theorem clRX3_9 : Cond.classLink RX3 9 RX1 ∈ zU := zU_m 77 (by decide +kernel) rfl
theorem clRX3_18 : Cond.classLink RX3 18 RX0 ∈ zU := zU_m 109 (by decide +kernel) rfl
set_option maxHeartbeats 4000000 in
set_option maxRecDepth 100000 in
theorem i_X3 (l : Launch) : zI l yX3_init wsX3_init ({ frames := 2, cells := 20, slots := 119, locals := 33 } : Room) 3 [.null, .null, .int 0] 1 21 20 119 := by
  intro E2 h0 sz
  refine Met.ofW (cc := cX3_init) (maxL := 2) (ret := none) (by decide) rfl ?_
  intro p e s m args below meth c s₁ B hml hv
  obtain ⟨rfl, hsz, hP, hK, hD0, hX⟩ := hv
  have hx := B.exec
  have hb := B.bytes
  have hr := B.returns
  have hts := atoms_spec (ws := wsX3_init) B.pre
  have hown : s.vm.findClass RX3 = some m.cls := findClass_of_methodNamed B.named
  have hin : meth.name = "<init>" := (name_of_methodNamed B.named B.method).1
  subst hsz
  have hD := hD0.self (sz := s.heap.size)
  generalize hAe : va_A [(h0, .inr (3, [.null, .null, .int 0]))] s.heap.size = A at hD ⊢
  have hA : ∀ q : Nat, s.heap.size ≤ q → A q := fun q h => by rw [← hAe]; exact Or.inr h
  have hS : va_S A s.heap s.heap [] := va_S.rf
  have hl := lv_entry ([.ref h0]) (n := 2) (Nat.le_of_ble_eq_true rfl)
  rw [lg_entry_eq]
  generalize (lg_sl ([.ref h0]) ++ List.replicate (2 - (lg_sl ([.ref h0])).length) Slot.unset).toArray = ls at hl ⊢
  have hl : lv_has ls 2 [(0, .ref h0)] := hl
  refine lv_aload_n hx hb dX3_init_0 rfl (lv_at hl 0 rfl) ?_
  refine W.objInit hx hb hown (hts _ (zm mlRX3_3)) (hts _ (zm imObj)) (hts _ (zm coObj)) rfl (by rw [hml]; exact hl.1) rfl dX3_init_1 (Nat.le_of_ble_eq_true rfl) (Nat.le_of_ble_eq_true rfl) ?_
  refine W.eq (g2 := F0 m 4 ls []) rfl ?_
  refine lv_aload_n hx hb dX3_init_4 rfl (lv_at hl 0 rfl) ?_
  refine va_new (ci := 1) (fs := [.int 0, .null, .null, .null]) (C := RX1) (T := TX1) (N := 4) hx hb hts (zmi inU_1) tyX1 tyX1_ok hown (hts _ (zm clRX3_9)) (hts _ (zm insRX1)) (hts _ (zm iniRX1)) hK hP hD hS hA rfl (fun j hj => by rcases (show j = 0 ∨ j = 1 ∨ j = 2 ∨ j = 3 by omega) with rfl | rfl | rfl | rfl <;> rfl) (Nat.le_of_ble_eq_true rfl) (Nat.le_of_ble_eq_true rfl) dX3_init_5 (fun q5 H hP hD hS => ?_)
  refine W.widen (k := 1) (n := 4) (Nat.le_of_ble_eq_true rfl) (Nat.le_of_ble_eq_true rfl) ?_
  refine lv_dup hx hb dX3_init_8 rfl ?_
  refine zn_N (ws := [(h0, .inr (3, [.null, .null, .int 0]))]) (E2 := E2) ⟨hx, hb, hml, hown, hts⟩ (i_X1 l) ⟨va_cnB 0 hts (zU_in zbw (zw_zU coX1_init)) rfl rfl rfl (hX.1 (RX3, 11, yX1_init) (List.mem_of_getElem? (i := 0) rfl)) (hts _ (zm iniRX1)) (by decide +kernel) ⟨Nat.le_of_ble_eq_true rfl, Nat.le_of_ble_eq_true rfl⟩, rfl, hts _ (zm imX1_init)⟩ hK hX hP hD hS hA hl.1 (Nat.le_of_ble_eq_true rfl) dX3_init_9 ⟨Nat.le_of_ble_eq_true rfl, Nat.le_of_ble_eq_true rfl⟩ (fun f9 H locs f90 hP hD hS => ?_)
  rw [← f90]
  refine W.widen (k := 4) (n := 34) (Nat.le_of_ble_eq_true rfl) (Nat.le_of_ble_eq_true rfl) ?_
  refine va_putF (D := E2.2) (ci := 3) (v := .ref (f9 0)) (ty := (.object "WetSuitPedalsShoes$Course")) (C := RX3) (T := TX3) (N := 3) hx hb hts (zmi inU_3) tyX3 tyX3_ok nmX3 hown hK hP hD hS 0 rfl rfl 0 (by decide) (hts _ (zm flRX3_12)) (fun _ h9 => h9) rfl hin rfl (by decide +kernel) rfl rfl (Nat.le_of_ble_eq_true rfl) dX3_init_12 (fun H locs hP hD hS => ?_)
  have hP : va_P E2.2 vwCl ([(h0, .inr (3, [.ref (f9 0), .null, .int 0]))] ++ zS E2 2 4 f9) H := hP
  have hD : va_D A ([(h0, .inr (3, [.ref (f9 0), .null, .int 0]))] ++ zS E2 2 4 f9) := hD
  refine lv_aload_n hx hb dX3_init_15 rfl (lv_at hl 0 rfl) ?_
  refine lv_iconst (v := (5 : Int32)) hx hb dX3_init_16 (by decide) ?_
  refine zn_newq hx hb hown (hts _ (zm clRX3_18)) hX hK hP hD hS hA (Nat.le_of_ble_eq_true rfl) (Nat.le_of_ble_eq_true rfl) dX3_init_17 (fun q17 H hP hD hS => ?_)
  refine W.widen (k := 5) (n := 39) (Nat.le_of_ble_eq_true rfl) (Nat.le_of_ble_eq_true rfl) ?_
  refine va_putF (D := E2.2) (ci := 3) (v := .ref q17) (ty := (.array (.object "WetSuitPedalsShoes$Athlete"))) (C := RX3) (T := TX3) (N := 3) hx hb hts (zmi inU_3) tyX3 tyX3_ok nmX3 hown hK hP hD hS 0 rfl rfl 1 (by decide) (hts _ (zm flRX3_20)) (fun _ h9 => h9) rfl hin rfl (by decide +kernel) rfl rfl (Nat.le_of_ble_eq_true rfl) dX3_init_20 (fun H locs hP hD hS => ?_)
  have hP : va_P E2.2 vwCl ([(h0, .inr (3, [.ref (f9 0), .ref q17, .int 0]))] ++ zS E2 2 4 f9 ++ [(q17, .inl (E2.1.2.1, 5, .inr (.inr (.inr (.inr (fun _ => none))))))]) H := hP
  have hD : va_D A ([(h0, .inr (3, [.ref (f9 0), .ref q17, .int 0]))] ++ zS E2 2 4 f9 ++ [(q17, .inl (E2.1.2.1, 5, .inr (.inr (.inr (.inr (fun _ => none))))))]) := hD
  refine lv_aload_n hx hb dX3_init_23 rfl (lv_at hl 0 rfl) ?_
  refine lv_iconst (v := (0 : Int32)) hx hb dX3_init_24 (by decide) ?_
  refine va_put (D := E2.2) (ci := 3) (v := .int (0 : Int32)) (ty := .int) (C := RX3) (T := TX3) (N := 3) hx hb hts (zmi inU_3) tyX3 tyX3_ok nmX3 hown hK hP hD hS 0 rfl rfl 2 (by decide) (hts _ (zm flRX3_24)) (fun _ h9 => h9) rfl (by decide +kernel) rfl rfl (Nat.le_of_ble_eq_true rfl) dX3_init_25 (fun H locs hP hD hS => ?_)
  have hP : va_P E2.2 vwCl ([(h0, .inr (3, [.ref (f9 0), .ref q17, .int 0]))] ++ zS E2 2 4 f9 ++ [(q17, .inl (E2.1.2.1, 5, .inr (.inr (.inr (.inr (fun _ => none))))))]) H := hP
  have hD : va_D A ([(h0, .inr (3, [.ref (f9 0), .ref q17, .int 0]))] ++ zS E2 2 4 f9 ++ [(q17, .inl (E2.1.2.1, 5, .inr (.inr (.inr (.inr (fun _ => none))))))]) := hD
  refine lv_iconst (v := (0 : Int32)) hx hb dX3_init_28 (by decide) ?_
  refine lv_istore_n (lv' := [(1, .int (0 : Int32)), (0, .ref h0)]) hx hb dX3_init_29 rfl hl (by decide) rfl (fun ls hl => ?_)
  refine lv_iload_n hx hb dX3_init_30 rfl (lv_at hl 0 rfl) ?_
  refine lv_iconst (v := (5 : Int32)) hx hb dX3_init_31 (by decide) ?_
  refine lv_icmp_ge (tgt := 54) hx hb dX3_init_32 (by decide) (fun h9 => absurd h9 (by decide)) (fun _ => ?_)
  refine lv_aload_n hx hb dX3_init_35 rfl (lv_at hl 1 rfl) ?_
  refine va_get hx hb hts (zmi inU_3) hown hK hP 0 rfl rfl 1 (by decide) (hts _ (zm flRX3_20)) (fun _ h9 => h9) (v := .ref q17) rfl dX3_init_36 ?_
  refine lv_iload_n hx hb dX3_init_39 rfl (lv_at hl 0 rfl) ?_
  refine va_new (ci := 0) (fs := [.null, .null]) (C := RX0) (T := TX0) (N := 2) hx hb hts (zmi inU_0) tyX0 tyX0_ok hown (hts _ (zm clRX3_18)) (hts _ (zm insRX0)) (hts _ (zm iniRX0)) hK hP hD hS hA rfl (fun j hj => by rcases (show j = 0 ∨ j = 1 by omega) with rfl | rfl <;> rfl) (Nat.le_of_ble_eq_true rfl) (Nat.le_of_ble_eq_true rfl) dX3_init_40 (fun q40_0 H hP hD hS => ?_)
  refine W.widen (k := 6) (n := 41) (Nat.le_of_ble_eq_true rfl) (Nat.le_of_ble_eq_true rfl) ?_
  refine lv_dup hx hb dX3_init_43 rfl ?_
  refine zn_N (ws := [(h0, .inr (3, [.ref (f9 0), .ref q17, .int 0]))] ++ zS E2 2 4 f9 ++ [(q17, .inl (E2.1.2.1, 5, .inr (.inr (.inr (.inr (fun _ => none))))))]) (E2 := E2) ⟨hx, hb, hml, hown, hts⟩ (i_X0 l) ⟨va_cnB 0 hts (zU_in zbw (zw_zU coX0_init)) rfl rfl rfl (hX.1 (RX3, 28, yX0_init) (List.mem_of_getElem? (i := 1) rfl)) (hts _ (zm iniRX0)) (by decide +kernel) ⟨Nat.le_of_ble_eq_true rfl, Nat.le_of_ble_eq_true rfl⟩, rfl, hts _ (zm imX0_init)⟩ hK hX hP hD hS hA hl.1 (Nat.le_of_ble_eq_true rfl) dX3_init_44 ⟨Nat.le_of_ble_eq_true rfl, Nat.le_of_ble_eq_true rfl⟩ (fun f44_0 H locs f44_00 hP hD hS => ?_)
  rw [← f44_00]
  refine W.widen (k := 8) (n := 55) (Nat.le_of_ble_eq_true rfl) (Nat.le_of_ble_eq_true rfl) ?_
  refine zn_astq hx hb hK hP hD hS 5 6 0 rfl rfl rfl (by decide) (by decide) dX3_init_47 (fun H locs hP hD hS => ?_)
  have hP : va_P E2.2 vwCl ([(h0, .inr (3, [.ref (f9 0), .ref q17, .int 0]))] ++ zS E2 2 4 f9 ++ [(q17, .inl (E2.1.2.1, 5, .inr (.inr (.inr (.inr (va_up (fun _ => none) 0 (some (f44_0 0))))))))] ++ zS E2 7 3 f44_0) H := hP
  have hD : va_D A ([(h0, .inr (3, [.ref (f9 0), .ref q17, .int 0]))] ++ zS E2 2 4 f9 ++ [(q17, .inl (E2.1.2.1, 5, .inr (.inr (.inr (.inr (va_up (fun _ => none) 0 (some (f44_0 0))))))))] ++ zS E2 7 3 f44_0) := hD
  refine lv_iinc (k := 0) (v := (1 : Int32)) (lv' := [(1, .int (1 : Int32)), (0, .ref h0)]) hx hb dX3_init_48 hl rfl (by decide) (by decide) rfl (fun ls hl => ?_)
  refine lv_goto (tgt := 30) hx hb dX3_init_51 (by decide) ?_
  refine lv_iload_n hx hb dX3_init_30 rfl (lv_at hl 0 rfl) ?_
  refine lv_iconst (v := (5 : Int32)) hx hb dX3_init_31 (by decide) ?_
  refine lv_icmp_ge (tgt := 54) hx hb dX3_init_32 (by decide) (fun h9 => absurd h9 (by decide)) (fun _ => ?_)
  refine lv_aload_n hx hb dX3_init_35 rfl (lv_at hl 1 rfl) ?_
  refine va_get hx hb hts (zmi inU_3) hown hK hP 0 rfl rfl 1 (by decide) (hts _ (zm flRX3_20)) (fun _ h9 => h9) (v := .ref q17) rfl dX3_init_36 ?_
  refine lv_iload_n hx hb dX3_init_39 rfl (lv_at hl 0 rfl) ?_
  refine va_new (ci := 0) (fs := [.null, .null]) (C := RX0) (T := TX0) (N := 2) hx hb hts (zmi inU_0) tyX0 tyX0_ok hown (hts _ (zm clRX3_18)) (hts _ (zm insRX0)) (hts _ (zm iniRX0)) hK hP hD hS hA rfl (fun j hj => by rcases (show j = 0 ∨ j = 1 by omega) with rfl | rfl <;> rfl) (Nat.le_of_ble_eq_true rfl) (Nat.le_of_ble_eq_true rfl) dX3_init_40 (fun q40_1 H hP hD hS => ?_)
  refine W.widen (k := 9) (n := 57) (Nat.le_of_ble_eq_true rfl) (Nat.le_of_ble_eq_true rfl) ?_
  refine lv_dup hx hb dX3_init_43 rfl ?_
  refine zn_N (ws := [(h0, .inr (3, [.ref (f9 0), .ref q17, .int 0]))] ++ zS E2 2 4 f9 ++ [(q17, .inl (E2.1.2.1, 5, .inr (.inr (.inr (.inr (va_up (fun _ => none) 0 (some (f44_0 0))))))))] ++ zS E2 7 3 f44_0) (E2 := E2) ⟨hx, hb, hml, hown, hts⟩ (i_X0 l) ⟨va_cnB 0 hts (zU_in zbw (zw_zU coX0_init)) rfl rfl rfl (hX.1 (RX3, 28, yX0_init) (List.mem_of_getElem? (i := 1) rfl)) (hts _ (zm iniRX0)) (by decide +kernel) ⟨Nat.le_of_ble_eq_true rfl, Nat.le_of_ble_eq_true rfl⟩, rfl, hts _ (zm imX0_init)⟩ hK hX hP hD hS hA hl.1 (Nat.le_of_ble_eq_true rfl) dX3_init_44 ⟨Nat.le_of_ble_eq_true rfl, Nat.le_of_ble_eq_true rfl⟩ (fun f44_1 H locs f44_10 hP hD hS => ?_)
  rw [← f44_10]
  refine W.widen (k := 11) (n := 71) (Nat.le_of_ble_eq_true rfl) (Nat.le_of_ble_eq_true rfl) ?_
  refine zn_astq hx hb hK hP hD hS 5 9 1 rfl rfl rfl (by decide) (by decide) dX3_init_47 (fun H locs hP hD hS => ?_)
  have hP : va_P E2.2 vwCl ([(h0, .inr (3, [.ref (f9 0), .ref q17, .int 0]))] ++ zS E2 2 4 f9 ++ [(q17, .inl (E2.1.2.1, 5, .inr (.inr (.inr (.inr (va_up (va_up (fun _ => none) 0 (some (f44_0 0))) 1 (some (f44_1 0))))))))] ++ zS E2 7 3 f44_0 ++ zS E2 7 3 f44_1) H := hP
  have hD : va_D A ([(h0, .inr (3, [.ref (f9 0), .ref q17, .int 0]))] ++ zS E2 2 4 f9 ++ [(q17, .inl (E2.1.2.1, 5, .inr (.inr (.inr (.inr (va_up (va_up (fun _ => none) 0 (some (f44_0 0))) 1 (some (f44_1 0))))))))] ++ zS E2 7 3 f44_0 ++ zS E2 7 3 f44_1) := hD
  refine lv_iinc (k := 0) (v := (2 : Int32)) (lv' := [(1, .int (2 : Int32)), (0, .ref h0)]) hx hb dX3_init_48 hl rfl (by decide) (by decide) rfl (fun ls hl => ?_)
  refine lv_goto (tgt := 30) hx hb dX3_init_51 (by decide) ?_
  refine lv_iload_n hx hb dX3_init_30 rfl (lv_at hl 0 rfl) ?_
  refine lv_iconst (v := (5 : Int32)) hx hb dX3_init_31 (by decide) ?_
  refine lv_icmp_ge (tgt := 54) hx hb dX3_init_32 (by decide) (fun h9 => absurd h9 (by decide)) (fun _ => ?_)
  refine lv_aload_n hx hb dX3_init_35 rfl (lv_at hl 1 rfl) ?_
  refine va_get hx hb hts (zmi inU_3) hown hK hP 0 rfl rfl 1 (by decide) (hts _ (zm flRX3_20)) (fun _ h9 => h9) (v := .ref q17) rfl dX3_init_36 ?_
  refine lv_iload_n hx hb dX3_init_39 rfl (lv_at hl 0 rfl) ?_
  refine va_new (ci := 0) (fs := [.null, .null]) (C := RX0) (T := TX0) (N := 2) hx hb hts (zmi inU_0) tyX0 tyX0_ok hown (hts _ (zm clRX3_18)) (hts _ (zm insRX0)) (hts _ (zm iniRX0)) hK hP hD hS hA rfl (fun j hj => by rcases (show j = 0 ∨ j = 1 by omega) with rfl | rfl <;> rfl) (Nat.le_of_ble_eq_true rfl) (Nat.le_of_ble_eq_true rfl) dX3_init_40 (fun q40_2 H hP hD hS => ?_)
  refine W.widen (k := 12) (n := 73) (Nat.le_of_ble_eq_true rfl) (Nat.le_of_ble_eq_true rfl) ?_
  refine lv_dup hx hb dX3_init_43 rfl ?_
  refine zn_N (ws := [(h0, .inr (3, [.ref (f9 0), .ref q17, .int 0]))] ++ zS E2 2 4 f9 ++ [(q17, .inl (E2.1.2.1, 5, .inr (.inr (.inr (.inr (va_up (va_up (fun _ => none) 0 (some (f44_0 0))) 1 (some (f44_1 0))))))))] ++ zS E2 7 3 f44_0 ++ zS E2 7 3 f44_1) (E2 := E2) ⟨hx, hb, hml, hown, hts⟩ (i_X0 l) ⟨va_cnB 0 hts (zU_in zbw (zw_zU coX0_init)) rfl rfl rfl (hX.1 (RX3, 28, yX0_init) (List.mem_of_getElem? (i := 1) rfl)) (hts _ (zm iniRX0)) (by decide +kernel) ⟨Nat.le_of_ble_eq_true rfl, Nat.le_of_ble_eq_true rfl⟩, rfl, hts _ (zm imX0_init)⟩ hK hX hP hD hS hA hl.1 (Nat.le_of_ble_eq_true rfl) dX3_init_44 ⟨Nat.le_of_ble_eq_true rfl, Nat.le_of_ble_eq_true rfl⟩ (fun f44_2 H locs f44_20 hP hD hS => ?_)
  rw [← f44_20]
  refine W.widen (k := 14) (n := 87) (Nat.le_of_ble_eq_true rfl) (Nat.le_of_ble_eq_true rfl) ?_
  refine zn_astq hx hb hK hP hD hS 5 12 2 rfl rfl rfl (by decide) (by decide) dX3_init_47 (fun H locs hP hD hS => ?_)
  have hP : va_P E2.2 vwCl ([(h0, .inr (3, [.ref (f9 0), .ref q17, .int 0]))] ++ zS E2 2 4 f9 ++ [(q17, .inl (E2.1.2.1, 5, .inr (.inr (.inr (.inr (va_up (va_up (va_up (fun _ => none) 0 (some (f44_0 0))) 1 (some (f44_1 0))) 2 (some (f44_2 0))))))))] ++ zS E2 7 3 f44_0 ++ zS E2 7 3 f44_1 ++ zS E2 7 3 f44_2) H := hP
  have hD : va_D A ([(h0, .inr (3, [.ref (f9 0), .ref q17, .int 0]))] ++ zS E2 2 4 f9 ++ [(q17, .inl (E2.1.2.1, 5, .inr (.inr (.inr (.inr (va_up (va_up (va_up (fun _ => none) 0 (some (f44_0 0))) 1 (some (f44_1 0))) 2 (some (f44_2 0))))))))] ++ zS E2 7 3 f44_0 ++ zS E2 7 3 f44_1 ++ zS E2 7 3 f44_2) := hD
  refine lv_iinc (k := 0) (v := (3 : Int32)) (lv' := [(1, .int (3 : Int32)), (0, .ref h0)]) hx hb dX3_init_48 hl rfl (by decide) (by decide) rfl (fun ls hl => ?_)
  refine lv_goto (tgt := 30) hx hb dX3_init_51 (by decide) ?_
  refine lv_iload_n hx hb dX3_init_30 rfl (lv_at hl 0 rfl) ?_
  refine lv_iconst (v := (5 : Int32)) hx hb dX3_init_31 (by decide) ?_
  refine lv_icmp_ge (tgt := 54) hx hb dX3_init_32 (by decide) (fun h9 => absurd h9 (by decide)) (fun _ => ?_)
  refine lv_aload_n hx hb dX3_init_35 rfl (lv_at hl 1 rfl) ?_
  refine va_get hx hb hts (zmi inU_3) hown hK hP 0 rfl rfl 1 (by decide) (hts _ (zm flRX3_20)) (fun _ h9 => h9) (v := .ref q17) rfl dX3_init_36 ?_
  refine lv_iload_n hx hb dX3_init_39 rfl (lv_at hl 0 rfl) ?_
  refine va_new (ci := 0) (fs := [.null, .null]) (C := RX0) (T := TX0) (N := 2) hx hb hts (zmi inU_0) tyX0 tyX0_ok hown (hts _ (zm clRX3_18)) (hts _ (zm insRX0)) (hts _ (zm iniRX0)) hK hP hD hS hA rfl (fun j hj => by rcases (show j = 0 ∨ j = 1 by omega) with rfl | rfl <;> rfl) (Nat.le_of_ble_eq_true rfl) (Nat.le_of_ble_eq_true rfl) dX3_init_40 (fun q40_3 H hP hD hS => ?_)
  refine W.widen (k := 15) (n := 89) (Nat.le_of_ble_eq_true rfl) (Nat.le_of_ble_eq_true rfl) ?_
  refine lv_dup hx hb dX3_init_43 rfl ?_
  refine zn_N (ws := [(h0, .inr (3, [.ref (f9 0), .ref q17, .int 0]))] ++ zS E2 2 4 f9 ++ [(q17, .inl (E2.1.2.1, 5, .inr (.inr (.inr (.inr (va_up (va_up (va_up (fun _ => none) 0 (some (f44_0 0))) 1 (some (f44_1 0))) 2 (some (f44_2 0))))))))] ++ zS E2 7 3 f44_0 ++ zS E2 7 3 f44_1 ++ zS E2 7 3 f44_2) (E2 := E2) ⟨hx, hb, hml, hown, hts⟩ (i_X0 l) ⟨va_cnB 0 hts (zU_in zbw (zw_zU coX0_init)) rfl rfl rfl (hX.1 (RX3, 28, yX0_init) (List.mem_of_getElem? (i := 1) rfl)) (hts _ (zm iniRX0)) (by decide +kernel) ⟨Nat.le_of_ble_eq_true rfl, Nat.le_of_ble_eq_true rfl⟩, rfl, hts _ (zm imX0_init)⟩ hK hX hP hD hS hA hl.1 (Nat.le_of_ble_eq_true rfl) dX3_init_44 ⟨Nat.le_of_ble_eq_true rfl, Nat.le_of_ble_eq_true rfl⟩ (fun f44_3 H locs f44_30 hP hD hS => ?_)
  rw [← f44_30]
  refine W.widen (k := 17) (n := 103) (Nat.le_of_ble_eq_true rfl) (Nat.le_of_ble_eq_true rfl) ?_
  refine zn_astq hx hb hK hP hD hS 5 15 3 rfl rfl rfl (by decide) (by decide) dX3_init_47 (fun H locs hP hD hS => ?_)
  have hP : va_P E2.2 vwCl ([(h0, .inr (3, [.ref (f9 0), .ref q17, .int 0]))] ++ zS E2 2 4 f9 ++ [(q17, .inl (E2.1.2.1, 5, .inr (.inr (.inr (.inr (va_up (va_up (va_up (va_up (fun _ => none) 0 (some (f44_0 0))) 1 (some (f44_1 0))) 2 (some (f44_2 0))) 3 (some (f44_3 0))))))))] ++ zS E2 7 3 f44_0 ++ zS E2 7 3 f44_1 ++ zS E2 7 3 f44_2 ++ zS E2 7 3 f44_3) H := hP
  have hD : va_D A ([(h0, .inr (3, [.ref (f9 0), .ref q17, .int 0]))] ++ zS E2 2 4 f9 ++ [(q17, .inl (E2.1.2.1, 5, .inr (.inr (.inr (.inr (va_up (va_up (va_up (va_up (fun _ => none) 0 (some (f44_0 0))) 1 (some (f44_1 0))) 2 (some (f44_2 0))) 3 (some (f44_3 0))))))))] ++ zS E2 7 3 f44_0 ++ zS E2 7 3 f44_1 ++ zS E2 7 3 f44_2 ++ zS E2 7 3 f44_3) := hD
  refine lv_iinc (k := 0) (v := (4 : Int32)) (lv' := [(1, .int (4 : Int32)), (0, .ref h0)]) hx hb dX3_init_48 hl rfl (by decide) (by decide) rfl (fun ls hl => ?_)
  refine lv_goto (tgt := 30) hx hb dX3_init_51 (by decide) ?_
  refine lv_iload_n hx hb dX3_init_30 rfl (lv_at hl 0 rfl) ?_
  refine lv_iconst (v := (5 : Int32)) hx hb dX3_init_31 (by decide) ?_
  refine lv_icmp_ge (tgt := 54) hx hb dX3_init_32 (by decide) (fun h9 => absurd h9 (by decide)) (fun _ => ?_)
  refine lv_aload_n hx hb dX3_init_35 rfl (lv_at hl 1 rfl) ?_
  refine va_get hx hb hts (zmi inU_3) hown hK hP 0 rfl rfl 1 (by decide) (hts _ (zm flRX3_20)) (fun _ h9 => h9) (v := .ref q17) rfl dX3_init_36 ?_
  refine lv_iload_n hx hb dX3_init_39 rfl (lv_at hl 0 rfl) ?_
  refine va_new (ci := 0) (fs := [.null, .null]) (C := RX0) (T := TX0) (N := 2) hx hb hts (zmi inU_0) tyX0 tyX0_ok hown (hts _ (zm clRX3_18)) (hts _ (zm insRX0)) (hts _ (zm iniRX0)) hK hP hD hS hA rfl (fun j hj => by rcases (show j = 0 ∨ j = 1 by omega) with rfl | rfl <;> rfl) (Nat.le_of_ble_eq_true rfl) (Nat.le_of_ble_eq_true rfl) dX3_init_40 (fun q40_4 H hP hD hS => ?_)
  refine W.widen (k := 18) (n := 105) (Nat.le_of_ble_eq_true rfl) (Nat.le_of_ble_eq_true rfl) ?_
  refine lv_dup hx hb dX3_init_43 rfl ?_
  refine zn_N (ws := [(h0, .inr (3, [.ref (f9 0), .ref q17, .int 0]))] ++ zS E2 2 4 f9 ++ [(q17, .inl (E2.1.2.1, 5, .inr (.inr (.inr (.inr (va_up (va_up (va_up (va_up (fun _ => none) 0 (some (f44_0 0))) 1 (some (f44_1 0))) 2 (some (f44_2 0))) 3 (some (f44_3 0))))))))] ++ zS E2 7 3 f44_0 ++ zS E2 7 3 f44_1 ++ zS E2 7 3 f44_2 ++ zS E2 7 3 f44_3) (E2 := E2) ⟨hx, hb, hml, hown, hts⟩ (i_X0 l) ⟨va_cnB 0 hts (zU_in zbw (zw_zU coX0_init)) rfl rfl rfl (hX.1 (RX3, 28, yX0_init) (List.mem_of_getElem? (i := 1) rfl)) (hts _ (zm iniRX0)) (by decide +kernel) ⟨Nat.le_of_ble_eq_true rfl, Nat.le_of_ble_eq_true rfl⟩, rfl, hts _ (zm imX0_init)⟩ hK hX hP hD hS hA hl.1 (Nat.le_of_ble_eq_true rfl) dX3_init_44 ⟨Nat.le_of_ble_eq_true rfl, Nat.le_of_ble_eq_true rfl⟩ (fun f44_4 H locs f44_40 hP hD hS => ?_)
  rw [← f44_40]
  refine W.widen (k := 20) (n := 119) (Nat.le_of_ble_eq_true rfl) (Nat.le_of_ble_eq_true rfl) ?_
  refine zn_astq hx hb hK hP hD hS 5 18 4 rfl rfl rfl (by decide) (by decide) dX3_init_47 (fun H locs hP hD hS => ?_)
  have hP : va_P E2.2 vwCl ([(h0, .inr (3, [.ref (f9 0), .ref q17, .int 0]))] ++ zS E2 2 4 f9 ++ [(q17, .inl (E2.1.2.1, 5, .inr (.inr (.inr (.inr (va_up (va_up (va_up (va_up (va_up (fun _ => none) 0 (some (f44_0 0))) 1 (some (f44_1 0))) 2 (some (f44_2 0))) 3 (some (f44_3 0))) 4 (some (f44_4 0))))))))] ++ zS E2 7 3 f44_0 ++ zS E2 7 3 f44_1 ++ zS E2 7 3 f44_2 ++ zS E2 7 3 f44_3 ++ zS E2 7 3 f44_4) H := hP
  have hD : va_D A ([(h0, .inr (3, [.ref (f9 0), .ref q17, .int 0]))] ++ zS E2 2 4 f9 ++ [(q17, .inl (E2.1.2.1, 5, .inr (.inr (.inr (.inr (va_up (va_up (va_up (va_up (va_up (fun _ => none) 0 (some (f44_0 0))) 1 (some (f44_1 0))) 2 (some (f44_2 0))) 3 (some (f44_3 0))) 4 (some (f44_4 0))))))))] ++ zS E2 7 3 f44_0 ++ zS E2 7 3 f44_1 ++ zS E2 7 3 f44_2 ++ zS E2 7 3 f44_3 ++ zS E2 7 3 f44_4) := hD
  refine lv_iinc (k := 0) (v := (5 : Int32)) (lv' := [(1, .int (5 : Int32)), (0, .ref h0)]) hx hb dX3_init_48 hl rfl (by decide) (by decide) rfl (fun ls hl => ?_)
  refine lv_goto (tgt := 30) hx hb dX3_init_51 (by decide) ?_
  refine lv_iload_n hx hb dX3_init_30 rfl (lv_at hl 0 rfl) ?_
  refine lv_iconst (v := (5 : Int32)) hx hb dX3_init_31 (by decide) ?_
  refine lv_icmp_ge (tgt := 54) hx hb dX3_init_32 (by decide) (fun _ => ?_) (fun h9 => absurd (by decide) h9)
  have e5 : (va_up (va_up (va_up (va_up (va_up (fun _ => none) 0 (some (f44_0 0))) 1 (some (f44_1 0))) 2 (some (f44_2 0))) 3 (some (f44_3 0))) 4 (some (f44_4 0))) = (fun i => if i < 5 then some ((fun j => [h0, (f9 0), (f9 1), (f9 2), (f9 3), q17, (f44_0 0), (f44_0 1), (f44_0 2), (f44_1 0), (f44_1 1), (f44_1 2), (f44_2 0), (f44_2 1), (f44_2 2), (f44_3 0), (f44_3 1), (f44_3 2), (f44_4 0), (f44_4 1), (f44_4 2)].getD j 0) (1 + 5 + 1 + 3 * i - 1)) else none) := by
    funext i
    by_cases hi : i < 5
    · rcases (show i = 0 ∨ i = 1 ∨ i = 2 ∨ i = 3 ∨ i = 4 by omega) with rfl | rfl | rfl | rfl | rfl <;> rfl
    · rw [if_neg hi]; unfold va_up; rw [if_neg (by omega), if_neg (by omega), if_neg (by omega), if_neg (by omega), if_neg (by omega)]
  rw [e5] at hP hD
  have hPz : va_P E2.2 vwCl (zS E2 1 21 (fun j => [h0, (f9 0), (f9 1), (f9 2), (f9 3), q17, (f44_0 0), (f44_0 1), (f44_0 2), (f44_1 0), (f44_1 1), (f44_1 2), (f44_2 0), (f44_2 1), (f44_2 2), (f44_3 0), (f44_3 1), (f44_3 2), (f44_4 0), (f44_4 1), (f44_4 2)].getD j 0)) H := hP
  have hDz : va_D A (zS E2 1 21 (fun j => [h0, (f9 0), (f9 1), (f9 2), (f9 3), q17, (f44_0 0), (f44_0 1), (f44_0 2), (f44_1 0), (f44_1 1), (f44_1 2), (f44_2 0), (f44_2 1), (f44_2 2), (f44_3 0), (f44_3 1), (f44_3 2), (f44_4 0), (f44_4 1), (f44_4 2)].getD j 0)) := hD
  exact W.vret hx hb hr (fun t ht hW => ⟨⟨_, rfl, rfl, by rw [ht]; exact hPz, va_K.moved hW.alike hK, hDz⟩, hS.F ht⟩) hS.2.2 dX3_init_54
