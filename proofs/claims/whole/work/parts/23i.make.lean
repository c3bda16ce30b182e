theorem mlRX11_1 : Cond.methodLink RX11 1 objectInit ∈ zU := zU_m 68 (by decide +kernel) rfl
theorem clRX11_7 : Cond.classLink RX11 7 RX3 ∈ zU := zU_m 71 (by decide +kernel) rfl
theorem insRX3 : Cond.instantiable RX3 3 ∈ zU := zU_m 72 (by decide +kernel) rfl
theorem coX3_init : Cond.code yX3_init cX3_init 2 none ∈ zU := zU_m 75 (by decide +kernel) rfl
theorem imX3_init : Cond.instanceMethod yX3_init ∈ zU := zU_m 74 (by decide +kernel) rfl
theorem mlRX11_9 : Cond.methodLink RX11 9 yX3_init ∈ zU := zU_m 73 (by decide +kernel) rfl
theorem clRX11_23 : Cond.classLink RX11 23 RX9 ∈ zU := zU_m 145 (by decide +kernel) rfl
theorem insRX9 : Cond.instantiable RX9 2 ∈ zU := zU_m 146 (by decide +kernel) rfl
theorem coX9_init : Cond.code yX9_init cX9_init 1 none ∈ zU := zU_m 149 (by decide +kernel) rfl
theorem imX9_init : Cond.instanceMethod yX9_init ∈ zU := zU_m 148 (by decide +kernel) rfl
theorem clRX11_30 : Cond.classLink RX11 30 RX8 ∈ zU := zU_m 159 (by decide +kernel) rfl
theorem insRX8 : Cond.instantiable RX8 2 ∈ zU := zU_m 160 (by decide +kernel) rfl
theorem coX8_init : Cond.code yX8_init cX8_init 1 none ∈ zU := zU_m 163 (by decide +kernel) rfl
theorem imX8_init : Cond.instanceMethod yX8_init ∈ zU := zU_m 162 (by decide +kernel) rfl
theorem clRX11_41 : Cond.classLink RX11 41 RX10 ∈ zU := zU_m 174 (by decide +kernel) rfl
theorem insRX10 : Cond.instantiable RX10 6 ∈ zU := zU_m 175 (by decide +kernel) rfl
theorem coX10_init : Cond.code yX10_init cX10_init 1 none ∈ zU := zU_m 178 (by decide +kernel) rfl
theorem imX10_init : Cond.instanceMethod yX10_init ∈ zU := zU_m 177 (by decide +kernel) rfl
theorem clRX11_51 : Cond.classLink RX11 51 RX7 ∈ zU := zU_m 209 (by decide +kernel) rfl
theorem insRX7 : Cond.instantiable RX7 8 ∈ zU := zU_m 210 (by decide +kernel) rfl
theorem coX7_init : Cond.code yX7_init cX7_init 1 none ∈ zU := zU_m 213 (by decide +kernel) rfl
theorem imX7_init : Cond.instanceMethod yX7_init ∈ zU := zU_m 212 (by decide +kernel) rfl
theorem clRX11_58 : Cond.classLink RX11 58 RX2 ∈ zU := zU_m 242 (by decide +kernel) rfl
theorem insRX2 : Cond.instantiable RX2 2 ∈ zU := zU_m 243 (by decide +kernel) rfl
theorem coX2_init : Cond.code yX2_init cX2_init 1 none ∈ zU := zU_m 246 (by decide +kernel) rfl
theorem imX2_init : Cond.instanceMethod yX2_init ∈ zU := zU_m 245 (by decide +kernel) rfl
theorem clRX11_65 : Cond.classLink RX11 65 RX5 ∈ zU := zU_m 257 (by decide +kernel) rfl
theorem insRX5 : Cond.instantiable RX5 2 ∈ zU := zU_m 258 (by decide +kernel) rfl
theorem coX5_init : Cond.code yX5_init cX5_init 1 none ∈ zU := zU_m 261 (by decide +kernel) rfl
theorem imX5_init : Cond.instanceMethod yX5_init ∈ zU := zU_m 260 (by decide +kernel) rfl
set_option maxHeartbeats 4000000 in
set_option maxRecDepth 100000 in
theorem i_X11 (l : Launch) (h7 : zI l yX7_init wsX7_init ({ frames := 1, cells := 17, slots := 7341, locals := 12 } : Room) 5 [.int 0, .int 0, .null, .null, .null, .null, .null, .null] 70 18 17 7341) : zI l yX11_init wsX11_init ({ frames := 3, cells := 91, slots := 7896, locals := 54 } : Room) 9 [.null, .null, .int 0, .null, .null, .null, .null, .null, .null, .null, .null] 0 92 91 7896 := by
  intro E2 h0 sz
  refine Met.ofW (cc := cX11_init) (maxL := 1) (ret := none) (by decide) rfl ?_
  intro p e s m args below meth c s₁ B hml hv
  obtain ⟨rfl, hsz, hP, hK, hD0, hX⟩ := hv
  have hx := B.exec
  have hb := B.bytes
  have hr := B.returns
  have hts := atoms_spec (ws := wsX11_init) B.pre
  have hown : s.vm.findClass RX11 = some m.cls := findClass_of_methodNamed B.named
  have hin : meth.name = "<init>" := (name_of_methodNamed B.named B.method).1
  subst hsz
  have hD := hD0.self (sz := s.heap.size)
  generalize hAe : va_A [(h0, .inr (9, [.null, .null, .int 0, .null, .null, .null, .null, .null, .null, .null, .null]))] s.heap.size = A at hD ⊢
  have hA : ∀ q : Nat, s.heap.size ≤ q → A q := fun q h => by rw [← hAe]; exact Or.inr h
  have hS : va_S A s.heap s.heap [] := va_S.rf
  have hl := lv_entry ([.ref h0]) (n := 1) (Nat.le_of_ble_eq_true rfl)
  rw [lg_entry_eq]
  generalize (lg_sl ([.ref h0]) ++ List.replicate (1 - (lg_sl ([.ref h0])).length) Slot.unset).toArray = ls at hl ⊢
  have hl : lv_has ls 1 [(0, .ref h0)] := hl
  refine lv_aload_n hx hb dX11_init_0 rfl (lv_at hl 0 rfl) ?_
  refine W.objInit hx hb hown (hts _ (zm mlRX11_1)) (hts _ (zm imObj)) (hts _ (zm coObj)) rfl (by rw [hml]; exact hl.1) rfl dX11_init_1 (Nat.le_of_ble_eq_true rfl) (Nat.le_of_ble_eq_true rfl) ?_
  refine W.eq (g2 := F0 m 4 ls []) rfl ?_
  refine lv_aload_n hx hb dX11_init_4 rfl (lv_at hl 0 rfl) ?_
  refine va_new (ci := 3) (fs := [.null, .null, .int 0]) (C := RX3) (T := TX3) (N := 3) hx hb hts (zmi inU_3) tyX3 tyX3_ok hown (hts _ (zm clRX11_7)) (hts _ (zm insRX3)) (hts _ (zm iniRX3)) hK hP hD hS hA rfl (fun j hj => by rcases (show j = 0 ∨ j = 1 ∨ j = 2 by omega) with rfl | rfl | rfl <;> rfl) (Nat.le_of_ble_eq_true rfl) (Nat.le_of_ble_eq_true rfl) dX11_init_5 (fun q5 H hP hD hS => ?_)
  refine W.widen (k := 1) (n := 3) (Nat.le_of_ble_eq_true rfl) (Nat.le_of_ble_eq_true rfl) ?_
  refine lv_dup hx hb dX11_init_8 rfl ?_
  refine zn_I (ws := [(h0, .inr (9, [.null, .null, .int 0, .null, .null, .null, .null, .null, .null, .null, .null]))]) (E2 := E2) ⟨hx, hb, hml, hown, hts⟩ (i_X3 l) (cwI 0 hts (zU_in zbw (zw_zU coX3_init)) rfl rfl rfl (hts _ (zm iniRX3)) (hts _ (zm mlRX11_9)) (hts _ (zm imX3_init)) rfl (by decide +kernel) ⟨Nat.le_of_ble_eq_true rfl, Nat.le_of_ble_eq_true rfl⟩) hK hX hP hD hS hA hl.1 (Nat.le_of_ble_eq_true rfl) dX11_init_9 ⟨Nat.le_of_ble_eq_true rfl, Nat.le_of_ble_eq_true rfl⟩ (fun f9 H locs f90 hP hD hS => ?_)
  rw [← f90]
  refine W.widen (k := 21) (n := 122) (Nat.le_of_ble_eq_true rfl) (Nat.le_of_ble_eq_true rfl) ?_
  refine va_putF (D := E2.2) (ci := 9) (v := .ref (f9 0)) (ty := (.object "WetSuitPedalsShoes$Field")) (C := RX11) (T := TX11) (N := 11) hx hb hts (zmi inU_11) tyX11 tyX11_ok nmX11 hown hK hP hD hS 0 rfl rfl 0 (by decide) (hts _ (zm flRX11_10)) (fun _ h9 => h9) rfl hin rfl (by decide +kernel) rfl rfl (Nat.le_of_ble_eq_true rfl) dX11_init_12 (fun H locs hP hD hS => ?_)
  have hP : va_P E2.2 vwCl ([(h0, .inr (9, [.ref (f9 0), .null, .int 0, .null, .null, .null, .null, .null, .null, .null, .null]))] ++ zS E2 1 21 f9) H := hP
  have hD : va_D A ([(h0, .inr (9, [.ref (f9 0), .null, .int 0, .null, .null, .null, .null, .null, .null, .null, .null]))] ++ zS E2 1 21 f9) := hD
  refine lv_aload_n hx hb dX11_init_15 rfl (lv_at hl 0 rfl) ?_
  refine va_new (ci := 3) (fs := [.null, .null, .int 0]) (C := RX3) (T := TX3) (N := 3) hx hb hts (zmi inU_3) tyX3 tyX3_ok hown (hts _ (zm clRX11_7)) (hts _ (zm insRX3)) (hts _ (zm iniRX3)) hK hP hD hS hA rfl (fun j hj => by rcases (show j = 0 ∨ j = 1 ∨ j = 2 by omega) with rfl | rfl | rfl <;> rfl) (Nat.le_of_ble_eq_true rfl) (Nat.le_of_ble_eq_true rfl) dX11_init_16 (fun q16 H hP hD hS => ?_)
  refine W.widen (k := 22) (n := 125) (Nat.le_of_ble_eq_true rfl) (Nat.le_of_ble_eq_true rfl) ?_
  refine lv_dup hx hb dX11_init_19 rfl ?_
  refine zn_I (ws := [(h0, .inr (9, [.ref (f9 0), .null, .int 0, .null, .null, .null, .null, .null, .null, .null, .null]))] ++ zS E2 1 21 f9) (E2 := E2) ⟨hx, hb, hml, hown, hts⟩ (i_X3 l) (cwI 0 hts (zU_in zbw (zw_zU coX3_init)) rfl rfl rfl (hts _ (zm iniRX3)) (hts _ (zm mlRX11_9)) (hts _ (zm imX3_init)) rfl (by decide +kernel) ⟨Nat.le_of_ble_eq_true rfl, Nat.le_of_ble_eq_true rfl⟩) hK hX hP hD hS hA hl.1 (Nat.le_of_ble_eq_true rfl) dX11_init_20 ⟨Nat.le_of_ble_eq_true rfl, Nat.le_of_ble_eq_true rfl⟩ (fun f20 H locs f200 hP hD hS => ?_)
  rw [← f200]
  refine W.widen (k := 42) (n := 244) (Nat.le_of_ble_eq_true rfl) (Nat.le_of_ble_eq_true rfl) ?_
  refine va_putF (D := E2.2) (ci := 9) (v := .ref (f20 0)) (ty := (.object "WetSuitPedalsShoes$Field")) (C := RX11) (T := TX11) (N := 11) hx hb hts (zmi inU_11) tyX11 tyX11_ok nmX11 hown hK hP hD hS 0 rfl rfl 1 (by decide) (hts _ (zm flRX11_16)) (fun _ h9 => h9) rfl hin rfl (by decide +kernel) rfl rfl (Nat.le_of_ble_eq_true rfl) dX11_init_23 (fun H locs hP hD hS => ?_)
  have hP : va_P E2.2 vwCl ([(h0, .inr (9, [.ref (f9 0), .ref (f20 0), .int 0, .null, .null, .null, .null, .null, .null, .null, .null]))] ++ zS E2 1 21 f9 ++ zS E2 1 21 f20) H := hP
  have hD : va_D A ([(h0, .inr (9, [.ref (f9 0), .ref (f20 0), .int 0, .null, .null, .null, .null, .null, .null, .null, .null]))] ++ zS E2 1 21 f9 ++ zS E2 1 21 f20) := hD
  refine lv_aload_n hx hb dX11_init_26 rfl (lv_at hl 0 rfl) ?_
  refine lv_iconst (v := (0 : Int32)) hx hb dX11_init_27 (by decide) ?_
  refine va_put (D := E2.2) (ci := 9) (v := .int (0 : Int32)) (ty := .boolean) (C := RX11) (T := TX11) (N := 11) hx hb hts (zmi inU_11) tyX11 tyX11_ok nmX11 hown hK hP hD hS 0 rfl rfl 2 (by decide) (hts _ (zm flRX11_19)) (fun _ h9 => h9) rfl (by decide +kernel) rfl rfl (Nat.le_of_ble_eq_true rfl) dX11_init_28 (fun H locs hP hD hS => ?_)
  have hP : va_P E2.2 vwCl ([(h0, .inr (9, [.ref (f9 0), .ref (f20 0), .int 0, .null, .null, .null, .null, .null, .null, .null, .null]))] ++ zS E2 1 21 f9 ++ zS E2 1 21 f20) H := hP
  have hD : va_D A ([(h0, .inr (9, [.ref (f9 0), .ref (f20 0), .int 0, .null, .null, .null, .null, .null, .null, .null, .null]))] ++ zS E2 1 21 f9 ++ zS E2 1 21 f20) := hD
  refine lv_aload_n hx hb dX11_init_31 rfl (lv_at hl 0 rfl) ?_
  refine va_new (ci := 7) (fs := [.int 0, .null]) (C := RX9) (T := TX9) (N := 2) hx hb hts (zmi inU_9) tyX9 tyX9_ok hown (hts _ (zm clRX11_23)) (hts _ (zm insRX9)) (hts _ (zm iniRX9)) hK hP hD hS hA rfl (fun j hj => by rcases (show j = 0 ∨ j = 1 by omega) with rfl | rfl <;> rfl) (Nat.le_of_ble_eq_true rfl) (Nat.le_of_ble_eq_true rfl) dX11_init_32 (fun q32 H hP hD hS => ?_)
  refine W.widen (k := 43) (n := 246) (Nat.le_of_ble_eq_true rfl) (Nat.le_of_ble_eq_true rfl) ?_
  refine lv_dup hx hb dX11_init_35 rfl ?_
  refine zn_N (ws := [(h0, .inr (9, [.ref (f9 0), .ref (f20 0), .int 0, .null, .null, .null, .null, .null, .null, .null, .null]))] ++ zS E2 1 21 f9 ++ zS E2 1 21 f20) (E2 := E2) ⟨hx, hb, hml, hown, hts⟩ (i_X9 l) ⟨va_cnB 0 hts (zU_in zbw (zw_zU coX9_init)) rfl rfl rfl (hX.1 (RX11, 25, yX9_init) (List.mem_of_getElem? (i := 2) rfl)) (hts _ (zm iniRX9)) (by decide +kernel) ⟨Nat.le_of_ble_eq_true rfl, Nat.le_of_ble_eq_true rfl⟩, rfl, hts _ (zm imX9_init)⟩ hK hX hP hD hS hA hl.1 (Nat.le_of_ble_eq_true rfl) dX11_init_36 ⟨Nat.le_of_ble_eq_true rfl, Nat.le_of_ble_eq_true rfl⟩ (fun f36 H locs f360 hP hD hS => ?_)
  rw [← f360]
  refine W.widen (k := 44) (n := 342) (Nat.le_of_ble_eq_true rfl) (Nat.le_of_ble_eq_true rfl) ?_
  refine va_putF (D := E2.2) (ci := 9) (v := .ref (f36 0)) (ty := (.object "WetSuitPedalsShoes$Text")) (C := RX11) (T := TX11) (N := 11) hx hb hts (zmi inU_11) tyX11 tyX11_ok nmX11 hown hK hP hD hS 0 rfl rfl 3 (by decide) (hts _ (zm flRX11_26)) (fun _ h9 => h9) rfl hin rfl (by decide +kernel) rfl rfl (Nat.le_of_ble_eq_true rfl) dX11_init_39 (fun H locs hP hD hS => ?_)
  have hP : va_P E2.2 vwCl ([(h0, .inr (9, [.ref (f9 0), .ref (f20 0), .int 0, .ref (f36 0), .null, .null, .null, .null, .null, .null, .null]))] ++ zS E2 1 21 f9 ++ zS E2 1 21 f20 ++ zS E2 43 2 f36) H := hP
  have hD : va_D A ([(h0, .inr (9, [.ref (f9 0), .ref (f20 0), .int 0, .ref (f36 0), .null, .null, .null, .null, .null, .null, .null]))] ++ zS E2 1 21 f9 ++ zS E2 1 21 f20 ++ zS E2 43 2 f36) := hD
  refine lv_aload_n hx hb dX11_init_42 rfl (lv_at hl 0 rfl) ?_
  refine va_new (ci := 6) (fs := [.int 0, .null]) (C := RX8) (T := TX8) (N := 2) hx hb hts (zmi inU_8) tyX8 tyX8_ok hown (hts _ (zm clRX11_30)) (hts _ (zm insRX8)) (hts _ (zm iniRX8)) hK hP hD hS hA rfl (fun j hj => by rcases (show j = 0 ∨ j = 1 by omega) with rfl | rfl <;> rfl) (Nat.le_of_ble_eq_true rfl) (Nat.le_of_ble_eq_true rfl) dX11_init_43 (fun q43 H hP hD hS => ?_)
  refine W.widen (k := 45) (n := 344) (Nat.le_of_ble_eq_true rfl) (Nat.le_of_ble_eq_true rfl) ?_
  refine lv_dup hx hb dX11_init_46 rfl ?_
  refine zn_N (ws := [(h0, .inr (9, [.ref (f9 0), .ref (f20 0), .int 0, .ref (f36 0), .null, .null, .null, .null, .null, .null, .null]))] ++ zS E2 1 21 f9 ++ zS E2 1 21 f20 ++ zS E2 43 2 f36) (E2 := E2) ⟨hx, hb, hml, hown, hts⟩ (i_X8 l) ⟨va_cnB 0 hts (zU_in zbw (zw_zU coX8_init)) rfl rfl rfl (hX.1 (RX11, 32, yX8_init) (List.mem_of_getElem? (i := 3) rfl)) (hts _ (zm iniRX8)) (by decide +kernel) ⟨Nat.le_of_ble_eq_true rfl, Nat.le_of_ble_eq_true rfl⟩, rfl, hts _ (zm imX8_init)⟩ hK hX hP hD hS hA hl.1 (Nat.le_of_ble_eq_true rfl) dX11_init_47 ⟨Nat.le_of_ble_eq_true rfl, Nat.le_of_ble_eq_true rfl⟩ (fun f47 H locs f470 hP hD hS => ?_)
  rw [← f470]
  refine W.widen (k := 46) (n := 356) (Nat.le_of_ble_eq_true rfl) (Nat.le_of_ble_eq_true rfl) ?_
  refine va_putF (D := E2.2) (ci := 9) (v := .ref (f47 0)) (ty := (.object "WetSuitPedalsShoes$Row")) (C := RX11) (T := TX11) (N := 11) hx hb hts (zmi inU_11) tyX11 tyX11_ok nmX11 hown hK hP hD hS 0 rfl rfl 4 (by decide) (hts _ (zm flRX11_33)) (fun _ h9 => h9) rfl hin rfl (by decide +kernel) rfl rfl (Nat.le_of_ble_eq_true rfl) dX11_init_50 (fun H locs hP hD hS => ?_)
  have hP : va_P E2.2 vwCl ([(h0, .inr (9, [.ref (f9 0), .ref (f20 0), .int 0, .ref (f36 0), .ref (f47 0), .null, .null, .null, .null, .null, .null]))] ++ zS E2 1 21 f9 ++ zS E2 1 21 f20 ++ zS E2 43 2 f36 ++ zS E2 45 2 f47) H := hP
  have hD : va_D A ([(h0, .inr (9, [.ref (f9 0), .ref (f20 0), .int 0, .ref (f36 0), .ref (f47 0), .null, .null, .null, .null, .null, .null]))] ++ zS E2 1 21 f9 ++ zS E2 1 21 f20 ++ zS E2 43 2 f36 ++ zS E2 45 2 f47) := hD
  refine lv_aload_n hx hb dX11_init_53 rfl (lv_at hl 0 rfl) ?_
  refine lv_bipush (v := (7 : Int32)) hx hb dX11_init_54 (by decide) ?_
  refine zn_newa hx hb (hts _ (zm acI)) hK hP hD hS hA 7 rfl (Nat.le_of_ble_eq_true rfl) (Nat.le_of_ble_eq_true rfl) (Nat.le_of_ble_eq_true rfl) dX11_init_56 (fun q56 H hP hD hS => ?_)
  refine W.widen (k := 47) (n := 363) (Nat.le_of_ble_eq_true rfl) (Nat.le_of_ble_eq_true rfl) ?_
  refine va_putF (D := E2.2) (ci := 9) (v := .ref q56) (ty := (.array .int)) (C := RX11) (T := TX11) (N := 11) hx hb hts (zmi inU_11) tyX11 tyX11_ok nmX11 hown hK hP hD hS 0 rfl rfl 5 (by decide) (hts _ (zm flRX11_37)) (fun _ h9 => h9) rfl hin rfl (by decide +kernel) rfl rfl (Nat.le_of_ble_eq_true rfl) dX11_init_58 (fun H locs hP hD hS => ?_)
  have hP : va_P E2.2 vwCl ([(h0, .inr (9, [.ref (f9 0), .ref (f20 0), .int 0, .ref (f36 0), .ref (f47 0), .ref q56, .null, .null, .null, .null, .null]))] ++ zS E2 1 21 f9 ++ zS E2 1 21 f20 ++ zS E2 43 2 f36 ++ zS E2 45 2 f47 ++ [(q56, .inl (E2.1.1, 7, .inl (fun _ => 0)))]) H := hP
  have hD : va_D A ([(h0, .inr (9, [.ref (f9 0), .ref (f20 0), .int 0, .ref (f36 0), .ref (f47 0), .ref q56, .null, .null, .null, .null, .null]))] ++ zS E2 1 21 f9 ++ zS E2 1 21 f20 ++ zS E2 43 2 f36 ++ zS E2 45 2 f47 ++ [(q56, .inl (E2.1.1, 7, .inl (fun _ => 0)))]) := hD
  refine lv_aload_n hx hb dX11_init_61 rfl (lv_at hl 0 rfl) ?_
  refine va_new (ci := 8) (fs := [.null, .null, .int 0, .null, .null, .null]) (C := RX10) (T := TX10) (N := 6) hx hb hts (zmi inU_10) tyX10 tyX10_ok hown (hts _ (zm clRX11_41)) (hts _ (zm insRX10)) (hts _ (zm iniRX10)) hK hP hD hS hA rfl (fun j hj => by rcases (show j = 0 ∨ j = 1 ∨ j = 2 ∨ j = 3 ∨ j = 4 ∨ j = 5 by omega) with rfl | rfl | rfl | rfl | rfl | rfl <;> rfl) (Nat.le_of_ble_eq_true rfl) (Nat.le_of_ble_eq_true rfl) dX11_init_62 (fun q62 H hP hD hS => ?_)
  refine W.widen (k := 48) (n := 369) (Nat.le_of_ble_eq_true rfl) (Nat.le_of_ble_eq_true rfl) ?_
  refine lv_dup hx hb dX11_init_65 rfl ?_
  refine zn_N (ws := [(h0, .inr (9, [.ref (f9 0), .ref (f20 0), .int 0, .ref (f36 0), .ref (f47 0), .ref q56, .null, .null, .null, .null, .null]))] ++ zS E2 1 21 f9 ++ zS E2 1 21 f20 ++ zS E2 43 2 f36 ++ zS E2 45 2 f47 ++ [(q56, .inl (E2.1.1, 7, .inl (fun _ => 0)))]) (E2 := E2) ⟨hx, hb, hml, hown, hts⟩ (i_X10 l) ⟨va_cnB 0 hts (zU_in zbw (zw_zU coX10_init)) rfl rfl rfl (hX.1 (RX11, 43, yX10_init) (List.mem_of_getElem? (i := 4) rfl)) (hts _ (zm iniRX10)) (by decide +kernel) ⟨Nat.le_of_ble_eq_true rfl, Nat.le_of_ble_eq_true rfl⟩, rfl, hts _ (zm imX10_init)⟩ hK hX hP hD hS hA hl.1 (Nat.le_of_ble_eq_true rfl) dX11_init_66 ⟨Nat.le_of_ble_eq_true rfl, Nat.le_of_ble_eq_true rfl⟩ (fun f66 H locs f660 hP hD hS => ?_)
  rw [← f660]
  refine W.widen (k := 58) (n := 449) (Nat.le_of_ble_eq_true rfl) (Nat.le_of_ble_eq_true rfl) ?_
  refine va_putF (D := E2.2) (ci := 9) (v := .ref (f66 0)) (ty := (.object "WetSuitPedalsShoes$Trial")) (C := RX11) (T := TX11) (N := 11) hx hb hts (zmi inU_11) tyX11 tyX11_ok nmX11 hown hK hP hD hS 0 rfl rfl 6 (by decide) (hts _ (zm flRX11_44)) (fun _ h9 => h9) rfl hin rfl (by decide +kernel) rfl rfl (Nat.le_of_ble_eq_true rfl) dX11_init_69 (fun H locs hP hD hS => ?_)
  have hP : va_P E2.2 vwCl ([(h0, .inr (9, [.ref (f9 0), .ref (f20 0), .int 0, .ref (f36 0), .ref (f47 0), .ref q56, .ref (f66 0), .null, .null, .null, .null]))] ++ zS E2 1 21 f9 ++ zS E2 1 21 f20 ++ zS E2 43 2 f36 ++ zS E2 45 2 f47 ++ [(q56, .inl (E2.1.1, 7, .inl (fun _ => 0)))] ++ zS E2 48 11 f66) H := hP
  have hD : va_D A ([(h0, .inr (9, [.ref (f9 0), .ref (f20 0), .int 0, .ref (f36 0), .ref (f47 0), .ref q56, .ref (f66 0), .null, .null, .null, .null]))] ++ zS E2 1 21 f9 ++ zS E2 1 21 f20 ++ zS E2 43 2 f36 ++ zS E2 45 2 f47 ++ [(q56, .inl (E2.1.1, 7, .inl (fun _ => 0)))] ++ zS E2 48 11 f66) := hD
  refine lv_aload_n hx hb dX11_init_72 rfl (lv_at hl 0 rfl) ?_
  refine va_new (ci := 8) (fs := [.null, .null, .int 0, .null, .null, .null]) (C := RX10) (T := TX10) (N := 6) hx hb hts (zmi inU_10) tyX10 tyX10_ok hown (hts _ (zm clRX11_41)) (hts _ (zm insRX10)) (hts _ (zm iniRX10)) hK hP hD hS hA rfl (fun j hj => by rcases (show j = 0 ∨ j = 1 ∨ j = 2 ∨ j = 3 ∨ j = 4 ∨ j = 5 by omega) with rfl | rfl | rfl | rfl | rfl | rfl <;> rfl) (Nat.le_of_ble_eq_true rfl) (Nat.le_of_ble_eq_true rfl) dX11_init_73 (fun q73 H hP hD hS => ?_)
  refine W.widen (k := 59) (n := 455) (Nat.le_of_ble_eq_true rfl) (Nat.le_of_ble_eq_true rfl) ?_
  refine lv_dup hx hb dX11_init_76 rfl ?_
  refine zn_N (ws := [(h0, .inr (9, [.ref (f9 0), .ref (f20 0), .int 0, .ref (f36 0), .ref (f47 0), .ref q56, .ref (f66 0), .null, .null, .null, .null]))] ++ zS E2 1 21 f9 ++ zS E2 1 21 f20 ++ zS E2 43 2 f36 ++ zS E2 45 2 f47 ++ [(q56, .inl (E2.1.1, 7, .inl (fun _ => 0)))] ++ zS E2 48 11 f66) (E2 := E2) ⟨hx, hb, hml, hown, hts⟩ (i_X10 l) ⟨va_cnB 0 hts (zU_in zbw (zw_zU coX10_init)) rfl rfl rfl (hX.1 (RX11, 43, yX10_init) (List.mem_of_getElem? (i := 4) rfl)) (hts _ (zm iniRX10)) (by decide +kernel) ⟨Nat.le_of_ble_eq_true rfl, Nat.le_of_ble_eq_true rfl⟩, rfl, hts _ (zm imX10_init)⟩ hK hX hP hD hS hA hl.1 (Nat.le_of_ble_eq_true rfl) dX11_init_77 ⟨Nat.le_of_ble_eq_true rfl, Nat.le_of_ble_eq_true rfl⟩ (fun f77 H locs f770 hP hD hS => ?_)
  rw [← f770]
  refine W.widen (k := 69) (n := 535) (Nat.le_of_ble_eq_true rfl) (Nat.le_of_ble_eq_true rfl) ?_
  refine va_putF (D := E2.2) (ci := 9) (v := .ref (f77 0)) (ty := (.object "WetSuitPedalsShoes$Trial")) (C := RX11) (T := TX11) (N := 11) hx hb hts (zmi inU_11) tyX11 tyX11_ok nmX11 hown hK hP hD hS 0 rfl rfl 7 (by decide) (hts _ (zm flRX11_48)) (fun _ h9 => h9) rfl hin rfl (by decide +kernel) rfl rfl (Nat.le_of_ble_eq_true rfl) dX11_init_80 (fun H locs hP hD hS => ?_)
  have hP : va_P E2.2 vwCl ([(h0, .inr (9, [.ref (f9 0), .ref (f20 0), .int 0, .ref (f36 0), .ref (f47 0), .ref q56, .ref (f66 0), .ref (f77 0), .null, .null, .null]))] ++ zS E2 1 21 f9 ++ zS E2 1 21 f20 ++ zS E2 43 2 f36 ++ zS E2 45 2 f47 ++ [(q56, .inl (E2.1.1, 7, .inl (fun _ => 0)))] ++ zS E2 48 11 f66 ++ zS E2 48 11 f77) H := hP
  have hD : va_D A ([(h0, .inr (9, [.ref (f9 0), .ref (f20 0), .int 0, .ref (f36 0), .ref (f47 0), .ref q56, .ref (f66 0), .ref (f77 0), .null, .null, .null]))] ++ zS E2 1 21 f9 ++ zS E2 1 21 f20 ++ zS E2 43 2 f36 ++ zS E2 45 2 f47 ++ [(q56, .inl (E2.1.1, 7, .inl (fun _ => 0)))] ++ zS E2 48 11 f66 ++ zS E2 48 11 f77) := hD
  refine lv_aload_n hx hb dX11_init_83 rfl (lv_at hl 0 rfl) ?_
  refine va_new (ci := 5) (fs := [.int 0, .int 0, .null, .null, .null, .null, .null, .null]) (C := RX7) (T := TX7) (N := 8) hx hb hts (zmi inU_7) tyX7 tyX7_ok hown (hts _ (zm clRX11_51)) (hts _ (zm insRX7)) (hts _ (zm iniRX7)) hK hP hD hS hA rfl (fun j hj => by rcases (show j = 0 ∨ j = 1 ∨ j = 2 ∨ j = 3 ∨ j = 4 ∨ j = 5 ∨ j = 6 ∨ j = 7 by omega) with rfl | rfl | rfl | rfl | rfl | rfl | rfl | rfl <;> rfl) (Nat.le_of_ble_eq_true rfl) (Nat.le_of_ble_eq_true rfl) dX11_init_84 (fun q84 H hP hD hS => ?_)
  refine W.widen (k := 70) (n := 543) (Nat.le_of_ble_eq_true rfl) (Nat.le_of_ble_eq_true rfl) ?_
  refine lv_dup hx hb dX11_init_87 rfl ?_
  refine zn_N (ws := [(h0, .inr (9, [.ref (f9 0), .ref (f20 0), .int 0, .ref (f36 0), .ref (f47 0), .ref q56, .ref (f66 0), .ref (f77 0), .null, .null, .null]))] ++ zS E2 1 21 f9 ++ zS E2 1 21 f20 ++ zS E2 43 2 f36 ++ zS E2 45 2 f47 ++ [(q56, .inl (E2.1.1, 7, .inl (fun _ => 0)))] ++ zS E2 48 11 f66 ++ zS E2 48 11 f77) (E2 := E2) ⟨hx, hb, hml, hown, hts⟩ h7 ⟨va_cnB 0 hts (zU_in zbw (zw_zU coX7_init)) rfl rfl rfl (hX.1 (RX11, 53, yX7_init) (List.mem_of_getElem? (i := 7) rfl)) (hts _ (zm iniRX7)) (by decide +kernel) ⟨Nat.le_of_ble_eq_true rfl, Nat.le_of_ble_eq_true rfl⟩, rfl, hts _ (zm imX7_init)⟩ hK hX hP hD hS hA hl.1 (Nat.le_of_ble_eq_true rfl) dX11_init_88 ⟨Nat.le_of_ble_eq_true rfl, Nat.le_of_ble_eq_true rfl⟩ (fun f88 H locs f880 hP hD hS => ?_)
  rw [← f880]
  refine W.widen (k := 87) (n := 7884) (Nat.le_of_ble_eq_true rfl) (Nat.le_of_ble_eq_true rfl) ?_
  refine va_putF (D := E2.2) (ci := 9) (v := .ref (f88 0)) (ty := (.object "WetSuitPedalsShoes$Planner")) (C := RX11) (T := TX11) (N := 11) hx hb hts (zmi inU_11) tyX11 tyX11_ok nmX11 hown hK hP hD hS 0 rfl rfl 8 (by decide) (hts _ (zm flRX11_54)) (fun _ h9 => h9) rfl hin rfl (by decide +kernel) rfl rfl (Nat.le_of_ble_eq_true rfl) dX11_init_91 (fun H locs hP hD hS => ?_)
  have hP : va_P E2.2 vwCl ([(h0, .inr (9, [.ref (f9 0), .ref (f20 0), .int 0, .ref (f36 0), .ref (f47 0), .ref q56, .ref (f66 0), .ref (f77 0), .ref (f88 0), .null, .null]))] ++ zS E2 1 21 f9 ++ zS E2 1 21 f20 ++ zS E2 43 2 f36 ++ zS E2 45 2 f47 ++ [(q56, .inl (E2.1.1, 7, .inl (fun _ => 0)))] ++ zS E2 48 11 f66 ++ zS E2 48 11 f77 ++ zS E2 70 18 f88) H := hP
  have hD : va_D A ([(h0, .inr (9, [.ref (f9 0), .ref (f20 0), .int 0, .ref (f36 0), .ref (f47 0), .ref q56, .ref (f66 0), .ref (f77 0), .ref (f88 0), .null, .null]))] ++ zS E2 1 21 f9 ++ zS E2 1 21 f20 ++ zS E2 43 2 f36 ++ zS E2 45 2 f47 ++ [(q56, .inl (E2.1.1, 7, .inl (fun _ => 0)))] ++ zS E2 48 11 f66 ++ zS E2 48 11 f77 ++ zS E2 70 18 f88) := hD
  refine lv_aload_n hx hb dX11_init_94 rfl (lv_at hl 0 rfl) ?_
  refine va_new (ci := 2) (fs := [.null, .null]) (C := RX2) (T := TX2) (N := 2) hx hb hts (zmi inU_2) tyX2 tyX2_ok hown (hts _ (zm clRX11_58)) (hts _ (zm insRX2)) (hts _ (zm iniRX2)) hK hP hD hS hA rfl (fun j hj => by rcases (show j = 0 ∨ j = 1 by omega) with rfl | rfl <;> rfl) (Nat.le_of_ble_eq_true rfl) (Nat.le_of_ble_eq_true rfl) dX11_init_95 (fun q95 H hP hD hS => ?_)
  refine W.widen (k := 88) (n := 7886) (Nat.le_of_ble_eq_true rfl) (Nat.le_of_ble_eq_true rfl) ?_
  refine lv_dup hx hb dX11_init_98 rfl ?_
  refine zn_N (ws := [(h0, .inr (9, [.ref (f9 0), .ref (f20 0), .int 0, .ref (f36 0), .ref (f47 0), .ref q56, .ref (f66 0), .ref (f77 0), .ref (f88 0), .null, .null]))] ++ zS E2 1 21 f9 ++ zS E2 1 21 f20 ++ zS E2 43 2 f36 ++ zS E2 45 2 f47 ++ [(q56, .inl (E2.1.1, 7, .inl (fun _ => 0)))] ++ zS E2 48 11 f66 ++ zS E2 48 11 f77 ++ zS E2 70 18 f88) (E2 := E2) ⟨hx, hb, hml, hown, hts⟩ (i_X2 l) ⟨va_cnB 0 hts (zU_in zbw (zw_zU coX2_init)) rfl rfl rfl (hX.1 (RX11, 60, yX2_init) (List.mem_of_getElem? (i := 8) rfl)) (hts _ (zm iniRX2)) (by decide +kernel) ⟨Nat.le_of_ble_eq_true rfl, Nat.le_of_ble_eq_true rfl⟩, rfl, hts _ (zm imX2_init)⟩ hK hX hP hD hS hA hl.1 (Nat.le_of_ble_eq_true rfl) dX11_init_99 ⟨Nat.le_of_ble_eq_true rfl, Nat.le_of_ble_eq_true rfl⟩ (fun f99 H locs f990 hP hD hS => ?_)
  rw [← f990]
  refine W.widen (k := 90) (n := 7894) (Nat.le_of_ble_eq_true rfl) (Nat.le_of_ble_eq_true rfl) ?_
  refine va_putF (D := E2.2) (ci := 9) (v := .ref (f99 0)) (ty := (.object "WetSuitPedalsShoes$Duel")) (C := RX11) (T := TX11) (N := 11) hx hb hts (zmi inU_11) tyX11 tyX11_ok nmX11 hown hK hP hD hS 0 rfl rfl 9 (by decide) (hts _ (zm flRX11_61)) (fun _ h9 => h9) rfl hin rfl (by decide +kernel) rfl rfl (Nat.le_of_ble_eq_true rfl) dX11_init_102 (fun H locs hP hD hS => ?_)
  have hP : va_P E2.2 vwCl ([(h0, .inr (9, [.ref (f9 0), .ref (f20 0), .int 0, .ref (f36 0), .ref (f47 0), .ref q56, .ref (f66 0), .ref (f77 0), .ref (f88 0), .ref (f99 0), .null]))] ++ zS E2 1 21 f9 ++ zS E2 1 21 f20 ++ zS E2 43 2 f36 ++ zS E2 45 2 f47 ++ [(q56, .inl (E2.1.1, 7, .inl (fun _ => 0)))] ++ zS E2 48 11 f66 ++ zS E2 48 11 f77 ++ zS E2 70 18 f88 ++ zS E2 88 3 f99) H := hP
  have hD : va_D A ([(h0, .inr (9, [.ref (f9 0), .ref (f20 0), .int 0, .ref (f36 0), .ref (f47 0), .ref q56, .ref (f66 0), .ref (f77 0), .ref (f88 0), .ref (f99 0), .null]))] ++ zS E2 1 21 f9 ++ zS E2 1 21 f20 ++ zS E2 43 2 f36 ++ zS E2 45 2 f47 ++ [(q56, .inl (E2.1.1, 7, .inl (fun _ => 0)))] ++ zS E2 48 11 f66 ++ zS E2 48 11 f77 ++ zS E2 70 18 f88 ++ zS E2 88 3 f99) := hD
  refine lv_aload_n hx hb dX11_init_105 rfl (lv_at hl 0 rfl) ?_
  refine va_new (ci := 4) (fs := [.int 0, .int 0]) (C := RX5) (T := TX5) (N := 2) hx hb hts (zmi inU_5) tyX5 tyX5_ok hown (hts _ (zm clRX11_65)) (hts _ (zm insRX5)) (hts _ (zm iniRX5)) hK hP hD hS hA rfl (fun j hj => by rcases (show j = 0 ∨ j = 1 by omega) with rfl | rfl <;> rfl) (Nat.le_of_ble_eq_true rfl) (Nat.le_of_ble_eq_true rfl) dX11_init_106 (fun q106 H hP hD hS => ?_)
  refine W.widen (k := 91) (n := 7896) (Nat.le_of_ble_eq_true rfl) (Nat.le_of_ble_eq_true rfl) ?_
  refine lv_dup hx hb dX11_init_109 rfl ?_
  refine zn_N (ws := [(h0, .inr (9, [.ref (f9 0), .ref (f20 0), .int 0, .ref (f36 0), .ref (f47 0), .ref q56, .ref (f66 0), .ref (f77 0), .ref (f88 0), .ref (f99 0), .null]))] ++ zS E2 1 21 f9 ++ zS E2 1 21 f20 ++ zS E2 43 2 f36 ++ zS E2 45 2 f47 ++ [(q56, .inl (E2.1.1, 7, .inl (fun _ => 0)))] ++ zS E2 48 11 f66 ++ zS E2 48 11 f77 ++ zS E2 70 18 f88 ++ zS E2 88 3 f99) (E2 := E2) ⟨hx, hb, hml, hown, hts⟩ (i_X5 l) ⟨va_cnB 0 hts (zU_in zbw (zw_zU coX5_init)) rfl rfl rfl (hX.1 (RX11, 67, yX5_init) (List.mem_of_getElem? (i := 9) rfl)) (hts _ (zm iniRX5)) (by decide +kernel) ⟨Nat.le_of_ble_eq_true rfl, Nat.le_of_ble_eq_true rfl⟩, rfl, hts _ (zm imX5_init)⟩ hK hX hP hD hS hA hl.1 (Nat.le_of_ble_eq_true rfl) dX11_init_110 ⟨Nat.le_of_ble_eq_true rfl, Nat.le_of_ble_eq_true rfl⟩ (fun f110 H locs f1100 hP hD hS => ?_)
  rw [← f1100]
  refine W.widen (k := 91) (n := 7896) (Nat.le_of_ble_eq_true rfl) (Nat.le_of_ble_eq_true rfl) ?_
  refine va_putF (D := E2.2) (ci := 9) (v := .ref (f110 0)) (ty := (.object "WetSuitPedalsShoes$Lots")) (C := RX11) (T := TX11) (N := 11) hx hb hts (zmi inU_11) tyX11 tyX11_ok nmX11 hown hK hP hD hS 0 rfl rfl 10 (by decide) (hts _ (zm flRX11_68)) (fun _ h9 => h9) rfl hin rfl (by decide +kernel) rfl rfl (Nat.le_of_ble_eq_true rfl) dX11_init_113 (fun H locs hP hD hS => ?_)
  have hP : va_P E2.2 vwCl ([(h0, .inr (9, [.ref (f9 0), .ref (f20 0), .int 0, .ref (f36 0), .ref (f47 0), .ref q56, .ref (f66 0), .ref (f77 0), .ref (f88 0), .ref (f99 0), .ref (f110 0)]))] ++ zS E2 1 21 f9 ++ zS E2 1 21 f20 ++ zS E2 43 2 f36 ++ zS E2 45 2 f47 ++ [(q56, .inl (E2.1.1, 7, .inl (fun _ => 0)))] ++ zS E2 48 11 f66 ++ zS E2 48 11 f77 ++ zS E2 70 18 f88 ++ zS E2 88 3 f99 ++ zS E2 91 1 f110) H := hP
  have hD : va_D A ([(h0, .inr (9, [.ref (f9 0), .ref (f20 0), .int 0, .ref (f36 0), .ref (f47 0), .ref q56, .ref (f66 0), .ref (f77 0), .ref (f88 0), .ref (f99 0), .ref (f110 0)]))] ++ zS E2 1 21 f9 ++ zS E2 1 21 f20 ++ zS E2 43 2 f36 ++ zS E2 45 2 f47 ++ [(q56, .inl (E2.1.1, 7, .inl (fun _ => 0)))] ++ zS E2 48 11 f66 ++ zS E2 48 11 f77 ++ zS E2 70 18 f88 ++ zS E2 88 3 f99 ++ zS E2 91 1 f110) := hD
  obtain ⟨F, hF⟩ : ∃ F : Nat → Nat, F = (fun i => if i < 1 then h0 else if i < 22 then f9 (i - 1) else if i < 43 then f20 (i - 22) else if i < 45 then f36 (i - 43) else if i < 47 then f47 (i - 45) else if i < 48 then q56 else if i < 59 then f66 (i - 48) else if i < 70 then f77 (i - 59) else if i < 88 then f88 (i - 70) else if i < 91 then f99 (i - 88) else if i < 92 then f110 (i - 91) else 0) := ⟨_, rfl⟩
  have s0 : zSg E2 0 F 0 1 = [(h0, .inr (9, [.ref (f9 0), .ref (f20 0), .int 0, .ref (f36 0), .ref (f47 0), .ref q56, .ref (f66 0), .ref (f77 0), .ref (f88 0), .ref (f99 0), .ref (f110 0)]))] := by
    show [(F 0, zd (fun i => F (i - 0), E2) 0 (g0 0))] = _
    rw [zd_9 _ (by decide +kernel)]
    subst hF
    rfl
  have hF0 : ∀ j, j < 21 → F (1 + j) = f9 j := fun j hj => by
    rw [hF]
    dsimp only
    rw [if_neg (by omega), if_pos (by omega), show 1 + j - 1 = j by omega]
  have b0 : zSg E2 0 F 1 21 = zS E2 1 21 f9 := zS_block (E2 := E2) (t := 0) (o := 1) hF0 (by decide) (by decide +kernel)
  have s1 : zSg E2 0 F 0 22 = [(h0, .inr (9, [.ref (f9 0), .ref (f20 0), .int 0, .ref (f36 0), .ref (f47 0), .ref q56, .ref (f66 0), .ref (f77 0), .ref (f88 0), .ref (f99 0), .ref (f110 0)]))] ++ zS E2 1 21 f9 := (zSg_app E2 0 0 1 21 F).trans (by rw [s0]; exact congrArg (fun z => _ ++ z) b0)
  have hF1 : ∀ j, j < 21 → F (22 + j) = f20 j := fun j hj => by
    rw [hF]
    dsimp only
    rw [if_neg (by omega), if_neg (by omega), if_pos (by omega), show 22 + j - 22 = j by omega]
  have b1 : zSg E2 0 F 22 21 = zS E2 1 21 f20 := zS_move (E2 := E2) (t := 0) (t2 := 1) (o := 22) hF1 (by decide) (by decide +kernel) (by decide +kernel) (fun j hj => by rcases (show j = 0 ∨ j = 1 ∨ j = 2 ∨ j = 3 ∨ j = 4 ∨ j = 5 ∨ j = 6 ∨ j = 7 ∨ j = 8 ∨ j = 9 ∨ j = 10 ∨ j = 11 ∨ j = 12 ∨ j = 13 ∨ j = 14 ∨ j = 15 ∨ j = 16 ∨ j = 17 ∨ j = 18 ∨ j = 19 ∨ j = 20 by omega) with rfl | rfl | rfl | rfl | rfl | rfl | rfl | rfl | rfl | rfl | rfl | rfl | rfl | rfl | rfl | rfl | rfl | rfl | rfl | rfl | rfl <;> rfl)
  have s2 : zSg E2 0 F 0 43 = [(h0, .inr (9, [.ref (f9 0), .ref (f20 0), .int 0, .ref (f36 0), .ref (f47 0), .ref q56, .ref (f66 0), .ref (f77 0), .ref (f88 0), .ref (f99 0), .ref (f110 0)]))] ++ zS E2 1 21 f9 ++ zS E2 1 21 f20 := (zSg_app E2 0 0 22 21 F).trans (by rw [s1]; exact congrArg (fun z => _ ++ z) b1)
  have hF2 : ∀ j, j < 2 → F (43 + j) = f36 j := fun j hj => by
    rw [hF]
    dsimp only
    rw [if_neg (by omega), if_neg (by omega), if_neg (by omega), if_pos (by omega), show 43 + j - 43 = j by omega]
  have b2 : zSg E2 0 F 43 2 = zS E2 43 2 f36 := zS_block (E2 := E2) (t := 0) (o := 43) hF2 (by decide) (by decide +kernel)
  have s3 : zSg E2 0 F 0 45 = [(h0, .inr (9, [.ref (f9 0), .ref (f20 0), .int 0, .ref (f36 0), .ref (f47 0), .ref q56, .ref (f66 0), .ref (f77 0), .ref (f88 0), .ref (f99 0), .ref (f110 0)]))] ++ zS E2 1 21 f9 ++ zS E2 1 21 f20 ++ zS E2 43 2 f36 := (zSg_app E2 0 0 43 2 F).trans (by rw [s2]; exact congrArg (fun z => _ ++ z) b2)
  have hF3 : ∀ j, j < 2 → F (45 + j) = f47 j := fun j hj => by
    rw [hF]
    dsimp only
    rw [if_neg (by omega), if_neg (by omega), if_neg (by omega), if_neg (by omega), if_pos (by omega), show 45 + j - 45 = j by omega]
  have b3 : zSg E2 0 F 45 2 = zS E2 45 2 f47 := zS_block (E2 := E2) (t := 0) (o := 45) hF3 (by decide) (by decide +kernel)
  have s4 : zSg E2 0 F 0 47 = [(h0, .inr (9, [.ref (f9 0), .ref (f20 0), .int 0, .ref (f36 0), .ref (f47 0), .ref q56, .ref (f66 0), .ref (f77 0), .ref (f88 0), .ref (f99 0), .ref (f110 0)]))] ++ zS E2 1 21 f9 ++ zS E2 1 21 f20 ++ zS E2 43 2 f36 ++ zS E2 45 2 f47 := (zSg_app E2 0 0 45 2 F).trans (by rw [s3]; exact congrArg (fun z => _ ++ z) b3)
  have b4 : zSg E2 0 F 47 1 = [(q56, .inl (E2.1.1, 7, .inl (fun _ => 0)))] := by
    show [(F 47, zd (fun i => F (i - 0), E2) 47 (g0 47))] = _
    rw [zd_11 _ (by decide +kernel)]
    subst hF
    rfl
  have s5 : zSg E2 0 F 0 48 = [(h0, .inr (9, [.ref (f9 0), .ref (f20 0), .int 0, .ref (f36 0), .ref (f47 0), .ref q56, .ref (f66 0), .ref (f77 0), .ref (f88 0), .ref (f99 0), .ref (f110 0)]))] ++ zS E2 1 21 f9 ++ zS E2 1 21 f20 ++ zS E2 43 2 f36 ++ zS E2 45 2 f47 ++ [(q56, .inl (E2.1.1, 7, .inl (fun _ => 0)))] := (zSg_app E2 0 0 47 1 F).trans (by rw [s4]; exact congrArg (fun z => _ ++ z) b4)
  have hF5 : ∀ j, j < 11 → F (48 + j) = f66 j := fun j hj => by
    rw [hF]
    dsimp only
    rw [if_neg (by omega), if_neg (by omega), if_neg (by omega), if_neg (by omega), if_neg (by omega), if_neg (by omega), if_pos (by omega), show 48 + j - 48 = j by omega]
  have b5 : zSg E2 0 F 48 11 = zS E2 48 11 f66 := zS_block (E2 := E2) (t := 0) (o := 48) hF5 (by decide) (by decide +kernel)
  have s6 : zSg E2 0 F 0 59 = [(h0, .inr (9, [.ref (f9 0), .ref (f20 0), .int 0, .ref (f36 0), .ref (f47 0), .ref q56, .ref (f66 0), .ref (f77 0), .ref (f88 0), .ref (f99 0), .ref (f110 0)]))] ++ zS E2 1 21 f9 ++ zS E2 1 21 f20 ++ zS E2 43 2 f36 ++ zS E2 45 2 f47 ++ [(q56, .inl (E2.1.1, 7, .inl (fun _ => 0)))] ++ zS E2 48 11 f66 := (zSg_app E2 0 0 48 11 F).trans (by rw [s5]; exact congrArg (fun z => _ ++ z) b5)
  have hF6 : ∀ j, j < 11 → F (59 + j) = f77 j := fun j hj => by
    rw [hF]
    dsimp only
    rw [if_neg (by omega), if_neg (by omega), if_neg (by omega), if_neg (by omega), if_neg (by omega), if_neg (by omega), if_neg (by omega), if_pos (by omega), show 59 + j - 59 = j by omega]
  have b6 : zSg E2 0 F 59 11 = zS E2 48 11 f77 := zS_move (E2 := E2) (t := 0) (t2 := 48) (o := 59) hF6 (by decide) (by decide +kernel) (by decide +kernel) (fun j hj => by rcases (show j = 0 ∨ j = 1 ∨ j = 2 ∨ j = 3 ∨ j = 4 ∨ j = 5 ∨ j = 6 ∨ j = 7 ∨ j = 8 ∨ j = 9 ∨ j = 10 by omega) with rfl | rfl | rfl | rfl | rfl | rfl | rfl | rfl | rfl | rfl | rfl <;> rfl)
  have s7 : zSg E2 0 F 0 70 = [(h0, .inr (9, [.ref (f9 0), .ref (f20 0), .int 0, .ref (f36 0), .ref (f47 0), .ref q56, .ref (f66 0), .ref (f77 0), .ref (f88 0), .ref (f99 0), .ref (f110 0)]))] ++ zS E2 1 21 f9 ++ zS E2 1 21 f20 ++ zS E2 43 2 f36 ++ zS E2 45 2 f47 ++ [(q56, .inl (E2.1.1, 7, .inl (fun _ => 0)))] ++ zS E2 48 11 f66 ++ zS E2 48 11 f77 := (zSg_app E2 0 0 59 11 F).trans (by rw [s6]; exact congrArg (fun z => _ ++ z) b6)
  have hF7 : ∀ j, j < 18 → F (70 + j) = f88 j := fun j hj => by
    rw [hF]
    dsimp only
    rw [if_neg (by omega), if_neg (by omega), if_neg (by omega), if_neg (by omega), if_neg (by omega), if_neg (by omega), if_neg (by omega), if_neg (by omega), if_pos (by omega), show 70 + j - 70 = j by omega]
  have b7 : zSg E2 0 F 70 18 = zS E2 70 18 f88 := zS_block (E2 := E2) (t := 0) (o := 70) hF7 (by decide) (by decide +kernel)
  have s8 : zSg E2 0 F 0 88 = [(h0, .inr (9, [.ref (f9 0), .ref (f20 0), .int 0, .ref (f36 0), .ref (f47 0), .ref q56, .ref (f66 0), .ref (f77 0), .ref (f88 0), .ref (f99 0), .ref (f110 0)]))] ++ zS E2 1 21 f9 ++ zS E2 1 21 f20 ++ zS E2 43 2 f36 ++ zS E2 45 2 f47 ++ [(q56, .inl (E2.1.1, 7, .inl (fun _ => 0)))] ++ zS E2 48 11 f66 ++ zS E2 48 11 f77 ++ zS E2 70 18 f88 := (zSg_app E2 0 0 70 18 F).trans (by rw [s7]; exact congrArg (fun z => _ ++ z) b7)
  have hF8 : ∀ j, j < 3 → F (88 + j) = f99 j := fun j hj => by
    rw [hF]
    dsimp only
    rw [if_neg (by omega), if_neg (by omega), if_neg (by omega), if_neg (by omega), if_neg (by omega), if_neg (by omega), if_neg (by omega), if_neg (by omega), if_neg (by omega), if_pos (by omega), show 88 + j - 88 = j by omega]
  have b8 : zSg E2 0 F 88 3 = zS E2 88 3 f99 := zS_block (E2 := E2) (t := 0) (o := 88) hF8 (by decide) (by decide +kernel)
  have s9 : zSg E2 0 F 0 91 = [(h0, .inr (9, [.ref (f9 0), .ref (f20 0), .int 0, .ref (f36 0), .ref (f47 0), .ref q56, .ref (f66 0), .ref (f77 0), .ref (f88 0), .ref (f99 0), .ref (f110 0)]))] ++ zS E2 1 21 f9 ++ zS E2 1 21 f20 ++ zS E2 43 2 f36 ++ zS E2 45 2 f47 ++ [(q56, .inl (E2.1.1, 7, .inl (fun _ => 0)))] ++ zS E2 48 11 f66 ++ zS E2 48 11 f77 ++ zS E2 70 18 f88 ++ zS E2 88 3 f99 := (zSg_app E2 0 0 88 3 F).trans (by rw [s8]; exact congrArg (fun z => _ ++ z) b8)
  have hF9 : ∀ j, j < 1 → F (91 + j) = f110 j := fun j hj => by
    rw [hF]
    dsimp only
    rw [if_neg (by omega), if_neg (by omega), if_neg (by omega), if_neg (by omega), if_neg (by omega), if_neg (by omega), if_neg (by omega), if_neg (by omega), if_neg (by omega), if_neg (by omega), if_pos (by omega), show 91 + j - 91 = j by omega]
  have b9 : zSg E2 0 F 91 1 = zS E2 91 1 f110 := zS_block (E2 := E2) (t := 0) (o := 91) hF9 (by decide) (by decide +kernel)
  have s10 : zSg E2 0 F 0 92 = [(h0, .inr (9, [.ref (f9 0), .ref (f20 0), .int 0, .ref (f36 0), .ref (f47 0), .ref q56, .ref (f66 0), .ref (f77 0), .ref (f88 0), .ref (f99 0), .ref (f110 0)]))] ++ zS E2 1 21 f9 ++ zS E2 1 21 f20 ++ zS E2 43 2 f36 ++ zS E2 45 2 f47 ++ [(q56, .inl (E2.1.1, 7, .inl (fun _ => 0)))] ++ zS E2 48 11 f66 ++ zS E2 48 11 f77 ++ zS E2 70 18 f88 ++ zS E2 88 3 f99 ++ zS E2 91 1 f110 := (zSg_app E2 0 0 91 1 F).trans (by rw [s9]; exact congrArg (fun z => _ ++ z) b9)
  have eA : zS E2 0 92 F = [(h0, .inr (9, [.ref (f9 0), .ref (f20 0), .int 0, .ref (f36 0), .ref (f47 0), .ref q56, .ref (f66 0), .ref (f77 0), .ref (f88 0), .ref (f99 0), .ref (f110 0)]))] ++ zS E2 1 21 f9 ++ zS E2 1 21 f20 ++ zS E2 43 2 f36 ++ zS E2 45 2 f47 ++ [(q56, .inl (E2.1.1, 7, .inl (fun _ => 0)))] ++ zS E2 48 11 f66 ++ zS E2 48 11 f77 ++ zS E2 70 18 f88 ++ zS E2 88 3 f99 ++ zS E2 91 1 f110 := (zSg_all E2 0 92 F).trans s10
  rw [← eA] at hP hD
  have hF0 : F 0 = h0 := by rw [hF]; rfl
  exact W.vret hx hb hr (fun t ht hW => ⟨⟨F, rfl, hF0, by rw [ht]; exact hP, va_K.moved hW.alike hK, hD⟩, hS.F ht⟩) hS.2.2 dX11_init_116
