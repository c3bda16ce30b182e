section ZN
variable {p : Program} {l : Launch} {e : Env} {R : Room} {s : State} {m : MethodId} {args : Array Value} {below : List Frame} {meth : Method} {c : Code} {H : Heap} {locs : List Loc} {cells slots : Nat} {Q : State → Prop}
variable {cc : ByteArray} {pc : Nat} {ls : Array Slot} {rest : List Value} {E2 : zE2} {A : Nat → Prop} {H0 : Heap} {ws : va_W} {own : String}
theorem zn_mna (hx : p.tables.exec = Jvm.exec) (hb : c.code = cc) {index : Nat} (hown : s.vm.findClass own = some m.cls) (hcl : (Cond.classLink own index "[[I").before args s = true) (hX : zX s) (hai : (Cond.arrayClass .int).before args s = true) (hK : va_K E2.2 vwCl (zt E2) s) (hP : va_P E2.2 vwCl ws H) (hD : va_D A ws) (hS : va_S A H0 H locs) (hA : ∀ q, H0.size ≤ q → A q)
    {n k : Int32} (hn : n = 11) (hk : k = 100) (hcells : cells + 12 ≤ R.cells) (hslots : slots + 1111 ≤ R.slots) (hdg : decode cc pc = .ok (.multianewarray index 2, 4))
    (kk : ∀ (q : Nat) (H1 : Heap), va_P E2.2 vwCl ((ws ++ [(q, .inl (E2.1.2.2, 11, .inr (.inr (.inr (.inr (fun i => if i < 11 then some (q + 1 + i) else none))))))]) ++ zmR E2.1.1 q) H1 → va_D A ((ws ++ [(q, .inl (E2.1.2.2, 11, .inr (.inr (.inr (.inr (fun i => if i < 11 then some (q + 1 + i) else none))))))]) ++ zmR E2.1.1 q) → va_S A H0 H1 locs → W p l e R s m args below meth c H1 locs (cells + 12) (slots + 1111) Q (F0 m (pc + 4) ls (.ref q :: rest))) : W p l e R s m args below meth c H locs cells slots Q (F0 m pc ls (.int k :: .int n :: rest)) := by
  have en : "[[I" = "[" ++ (FieldType.array .int).toString := by decide +kernel
  rw [en] at hcl
  exact zm_mna hx hb (hK.2 2 (E2.1.2.2, .array .int) rfl).2 (hK.2 0 (E2.1.1, .int) rfl).2 hown hcl hX.2.2 hai hP hD hS hA hn hk hcells hslots hdg kk
end ZN
theorem mlRX7_3 : Cond.methodLink RX7 3 objectInit ∈ zU := zU_m 214 (by decide +kernel) rfl
theorem clRX7_28 : Cond.classLink RX7 28 "[[I" ∈ zU := zU_m 215 (by decide +kernel) rfl
set_option maxHeartbeats 4000000 in
set_option maxRecDepth 100000 in
theorem i_X7 (l : Launch) : zI l yX7_init wsX7_init ({ frames := 1, cells := 17, slots := 7341, locals := 12 } : Room) 5 [.int 0, .int 0, .null, .null, .null, .null, .null, .null] 70 18 17 7341 := by
  intro E2 h0 sz
  refine Met.ofW (cc := cX7_init) (maxL := 1) (ret := none) (by decide) rfl ?_
  intro p e s m args below meth c s₁ B hml hv
  obtain ⟨rfl, hsz, hP, hK, hD0, hX⟩ := hv
  have hx := B.exec
  have hb := B.bytes
  have hr := B.returns
  have hts := atoms_spec (ws := wsX7_init) B.pre
  have hown : s.vm.findClass RX7 = some m.cls := findClass_of_methodNamed B.named
  have hin : meth.name = "<init>" := (name_of_methodNamed B.named B.method).1
  subst hsz
  have hD := hD0.self (sz := s.heap.size)
  generalize hAe : va_A [(h0, .inr (5, [.int 0, .int 0, .null, .null, .null, .null, .null, .null]))] s.heap.size = A at hD ⊢
  have hA : ∀ q : Nat, s.heap.size ≤ q → A q := fun q h => by rw [← hAe]; exact Or.inr h
  have hS : va_S A s.heap s.heap [] := va_S.rf
  have hl := lv_entry ([.ref h0]) (n := 1) (Nat.le_of_ble_eq_true rfl)
  rw [lg_entry_eq]
  generalize (lg_sl ([.ref h0]) ++ List.replicate (1 - (lg_sl ([.ref h0])).length) Slot.unset).toArray = ls at hl ⊢
  have hl : lv_has ls 1 [(0, .ref h0)] := hl
  refine lv_aload_n hx hb dX7_init_0 rfl (lv_at hl 0 rfl) ?_
  refine W.objInit hx hb hown (hts _ (zm mlRX7_3)) (hts _ (zm imObj)) (hts _ (zm coObj)) rfl (by rw [hml]; exact hl.1) rfl dX7_init_1 (Nat.le_of_ble_eq_true rfl) (Nat.le_of_ble_eq_true rfl) ?_
  refine W.eq (g2 := F0 m 4 ls []) rfl ?_
  refine lv_aload_n hx hb dX7_init_4 rfl (lv_at hl 0 rfl) ?_
  refine lv_iconst (v := (0 : Int32)) hx hb dX7_init_5 (by decide) ?_
  refine va_put (D := E2.2) (ci := 5) (v := .int (0 : Int32)) (ty := .int) (C := RX7) (T := TX7) (N := 8) hx hb hts (zmi inU_7) tyX7 tyX7_ok nmX7 hown hK hP hD hS 0 rfl rfl 0 (by decide) (hts _ (zm flRX7_9)) (fun _ h9 => h9) rfl (by decide +kernel) rfl rfl (Nat.le_of_ble_eq_true rfl) dX7_init_6 (fun H locs hP hD hS => ?_)
  have hP : va_P E2.2 vwCl ([(h0, .inr (5, [.int 0, .int 0, .null, .null, .null, .null, .null, .null]))]) H := hP
  have hD : va_D A ([(h0, .inr (5, [.int 0, .int 0, .null, .null, .null, .null, .null, .null]))]) := hD
  refine lv_aload_n hx hb dX7_init_9 rfl (lv_at hl 0 rfl) ?_
  refine lv_iconst (v := (0 : Int32)) hx hb dX7_init_10 (by decide) ?_
  refine va_put (D := E2.2) (ci := 5) (v := .int (0 : Int32)) (ty := .int) (C := RX7) (T := TX7) (N := 8) hx hb hts (zmi inU_7) tyX7 tyX7_ok nmX7 hown hK hP hD hS 0 rfl rfl 1 (by decide) (hts _ (zm flRX7_15)) (fun _ h9 => h9) rfl (by decide +kernel) rfl rfl (Nat.le_of_ble_eq_true rfl) dX7_init_11 (fun H locs hP hD hS => ?_)
  have hP : va_P E2.2 vwCl ([(h0, .inr (5, [.int 0, .int 0, .null, .null, .null, .null, .null, .null]))]) H := hP
  have hD : va_D A ([(h0, .inr (5, [.int 0, .int 0, .null, .null, .null, .null, .null, .null]))]) := hD
  refine lv_aload_n hx hb dX7_init_14 rfl (lv_at hl 0 rfl) ?_
  refine lv_bipush (v := (10 : Int32)) hx hb dX7_init_15 (by decide) ?_
  refine zn_newa hx hb (hts _ (zm acI)) hK hP hD hS hA 10 rfl (Nat.le_of_ble_eq_true rfl) (Nat.le_of_ble_eq_true rfl) (Nat.le_of_ble_eq_true rfl) dX7_init_17 (fun q17 H hP hD hS => ?_)
  refine W.widen (k := 1) (n := 10) (Nat.le_of_ble_eq_true rfl) (Nat.le_of_ble_eq_true rfl) ?_
  refine va_putF (D := E2.2) (ci := 5) (v := .ref q17) (ty := (.array .int)) (C := RX7) (T := TX7) (N := 8) hx hb hts (zmi inU_7) tyX7 tyX7_ok nmX7 hown hK hP hD hS 0 rfl rfl 2 (by decide) (hts _ (zm flRX7_18)) (fun _ h9 => h9) rfl hin rfl (by decide +kernel) rfl rfl (Nat.le_of_ble_eq_true rfl) dX7_init_19 (fun H locs hP hD hS => ?_)
  have hP : va_P E2.2 vwCl ([(h0, .inr (5, [.int 0, .int 0, .ref q17, .null, .null, .null, .null, .null]))] ++ [(q17, .inl (E2.1.1, 10, .inl (fun _ => 0)))]) H := hP
  have hD : va_D A ([(h0, .inr (5, [.int 0, .int 0, .ref q17, .null, .null, .null, .null, .null]))] ++ [(q17, .inl (E2.1.1, 10, .inl (fun _ => 0)))]) := hD
  refine lv_aload_n hx hb dX7_init_22 rfl (lv_at hl 0 rfl) ?_
  refine lv_bipush (v := (10 : Int32)) hx hb dX7_init_23 (by decide) ?_
  refine zn_newa hx hb (hts _ (zm acI)) hK hP hD hS hA 10 rfl (Nat.le_of_ble_eq_true rfl) (Nat.le_of_ble_eq_true rfl) (Nat.le_of_ble_eq_true rfl) dX7_init_25 (fun q25 H hP hD hS => ?_)
  refine W.widen (k := 2) (n := 20) (Nat.le_of_ble_eq_true rfl) (Nat.le_of_ble_eq_true rfl) ?_
  refine va_putF (D := E2.2) (ci := 5) (v := .ref q25) (ty := (.array .int)) (C := RX7) (T := TX7) (N := 8) hx hb hts (zmi inU_7) tyX7 tyX7_ok nmX7 hown hK hP hD hS 0 rfl rfl 3 (by decide) (hts _ (zm flRX7_22)) (fun _ h9 => h9) rfl hin rfl (by decide +kernel) rfl rfl (Nat.le_of_ble_eq_true rfl) dX7_init_27 (fun H locs hP hD hS => ?_)
  have hP : va_P E2.2 vwCl ([(h0, .inr (5, [.int 0, .int 0, .ref q17, .ref q25, .null, .null, .null, .null]))] ++ [(q17, .inl (E2.1.1, 10, .inl (fun _ => 0)))] ++ [(q25, .inl (E2.1.1, 10, .inl (fun _ => 0)))]) H := hP
  have hD : va_D A ([(h0, .inr (5, [.int 0, .int 0, .ref q17, .ref q25, .null, .null, .null, .null]))] ++ [(q17, .inl (E2.1.1, 10, .inl (fun _ => 0)))] ++ [(q25, .inl (E2.1.1, 10, .inl (fun _ => 0)))]) := hD
  refine lv_aload_n hx hb dX7_init_30 rfl (lv_at hl 0 rfl) ?_
  refine lv_bipush (v := (10 : Int32)) hx hb dX7_init_31 (by decide) ?_
  refine zn_newa hx hb (hts _ (zm acI)) hK hP hD hS hA 10 rfl (Nat.le_of_ble_eq_true rfl) (Nat.le_of_ble_eq_true rfl) (Nat.le_of_ble_eq_true rfl) dX7_init_33 (fun q33 H hP hD hS => ?_)
  refine W.widen (k := 3) (n := 30) (Nat.le_of_ble_eq_true rfl) (Nat.le_of_ble_eq_true rfl) ?_
  refine va_putF (D := E2.2) (ci := 5) (v := .ref q33) (ty := (.array .int)) (C := RX7) (T := TX7) (N := 8) hx hb hts (zmi inU_7) tyX7 tyX7_ok nmX7 hown hK hP hD hS 0 rfl rfl 4 (by decide) (hts _ (zm flRX7_25)) (fun _ h9 => h9) rfl hin rfl (by decide +kernel) rfl rfl (Nat.le_of_ble_eq_true rfl) dX7_init_35 (fun H locs hP hD hS => ?_)
  have hP : va_P E2.2 vwCl ([(h0, .inr (5, [.int 0, .int 0, .ref q17, .ref q25, .ref q33, .null, .null, .null]))] ++ [(q17, .inl (E2.1.1, 10, .inl (fun _ => 0)))] ++ [(q25, .inl (E2.1.1, 10, .inl (fun _ => 0)))] ++ [(q33, .inl (E2.1.1, 10, .inl (fun _ => 0)))]) H := hP
  have hD : va_D A ([(h0, .inr (5, [.int 0, .int 0, .ref q17, .ref q25, .ref q33, .null, .null, .null]))] ++ [(q17, .inl (E2.1.1, 10, .inl (fun _ => 0)))] ++ [(q25, .inl (E2.1.1, 10, .inl (fun _ => 0)))] ++ [(q33, .inl (E2.1.1, 10, .inl (fun _ => 0)))]) := hD
  refine lv_aload_n hx hb dX7_init_38 rfl (lv_at hl 0 rfl) ?_
  refine lv_bipush (v := (11 : Int32)) hx hb dX7_init_39 (by decide) ?_
  refine lv_bipush (v := (100 : Int32)) hx hb dX7_init_41 (by decide) ?_
  refine zn_mna hx hb hown (hts _ (zm clRX7_28)) hX (hts _ (zm acI)) hK hP hD hS hA rfl rfl (Nat.le_of_ble_eq_true rfl) (Nat.le_of_ble_eq_true rfl) dX7_init_43 (fun q43 H hP hD hS => ?_)
  refine W.widen (k := 15) (n := 1141) (Nat.le_of_ble_eq_true rfl) (Nat.le_of_ble_eq_true rfl) ?_
  refine va_putF (D := E2.2) (ci := 5) (v := .ref q43) (ty := (.array (.array .int))) (C := RX7) (T := TX7) (N := 8) hx hb hts (zmi inU_7) tyX7 tyX7_ok nmX7 hown hK hP hD hS 0 rfl rfl 5 (by decide) (hts _ (zm flRX7_30)) (fun _ h9 => h9) rfl hin rfl (by decide +kernel) rfl rfl (Nat.le_of_ble_eq_true rfl) dX7_init_47 (fun H locs hP hD hS => ?_)
  have hP : va_P E2.2 vwCl ([(h0, .inr (5, [.int 0, .int 0, .ref q17, .ref q25, .ref q33, .ref q43, .null, .null]))] ++ [(q17, .inl (E2.1.1, 10, .inl (fun _ => 0)))] ++ [(q25, .inl (E2.1.1, 10, .inl (fun _ => 0)))] ++ [(q33, .inl (E2.1.1, 10, .inl (fun _ => 0)))] ++ [(q43, .inl (E2.1.2.2, 11, .inr (.inr (.inr (.inr (fun i => if i < 11 then some (q43 + 1 + i) else none))))))] ++ zmR E2.1.1 q43) H := hP
  have hD : va_D A ([(h0, .inr (5, [.int 0, .int 0, .ref q17, .ref q25, .ref q33, .ref q43, .null, .null]))] ++ [(q17, .inl (E2.1.1, 10, .inl (fun _ => 0)))] ++ [(q25, .inl (E2.1.1, 10, .inl (fun _ => 0)))] ++ [(q33, .inl (E2.1.1, 10, .inl (fun _ => 0)))] ++ [(q43, .inl (E2.1.2.2, 11, .inr (.inr (.inr (.inr (fun i => if i < 11 then some (q43 + 1 + i) else none))))))] ++ zmR E2.1.1 q43) := hD
  refine lv_aload_n hx hb dX7_init_50 rfl (lv_at hl 0 rfl) ?_
  refine lv_sipush (v := (3100 : Int32)) hx hb dX7_init_51 (by decide) ?_
  refine zn_newa hx hb (hts _ (zm acI)) hK hP hD hS hA 3100 rfl (Nat.le_of_ble_eq_true rfl) (Nat.le_of_ble_eq_true rfl) (Nat.le_of_ble_eq_true rfl) dX7_init_54 (fun q54 H hP hD hS => ?_)
  refine W.widen (k := 16) (n := 4241) (Nat.le_of_ble_eq_true rfl) (Nat.le_of_ble_eq_true rfl) ?_
  refine va_put (D := E2.2) (ci := 5) (v := .ref q54) (ty := (.array .int)) (C := RX7) (T := TX7) (N := 8) hx hb hts (zmi inU_7) tyX7 tyX7_ok nmX7 hown hK hP hD hS 0 rfl rfl 6 (by decide) (hts _ (zm flRX7_33)) (fun _ h9 => h9) rfl (by decide +kernel) rfl rfl (Nat.le_of_ble_eq_true rfl) dX7_init_56 (fun H locs hP hD hS => ?_)
  have hP : va_P E2.2 vwCl ([(h0, .inr (5, [.int 0, .int 0, .ref q17, .ref q25, .ref q33, .ref q43, .ref q54, .null]))] ++ [(q17, .inl (E2.1.1, 10, .inl (fun _ => 0)))] ++ [(q25, .inl (E2.1.1, 10, .inl (fun _ => 0)))] ++ [(q33, .inl (E2.1.1, 10, .inl (fun _ => 0)))] ++ [(q43, .inl (E2.1.2.2, 11, .inr (.inr (.inr (.inr (fun i => if i < 11 then some (q43 + 1 + i) else none))))))] ++ zmR E2.1.1 q43 ++ [(q54, .inl (E2.1.1, 3100, .inl (fun _ => 0)))]) H := hP
  have hD : va_D A ([(h0, .inr (5, [.int 0, .int 0, .ref q17, .ref q25, .ref q33, .ref q43, .ref q54, .null]))] ++ [(q17, .inl (E2.1.1, 10, .inl (fun _ => 0)))] ++ [(q25, .inl (E2.1.1, 10, .inl (fun _ => 0)))] ++ [(q33, .inl (E2.1.1, 10, .inl (fun _ => 0)))] ++ [(q43, .inl (E2.1.2.2, 11, .inr (.inr (.inr (.inr (fun i => if i < 11 then some (q43 + 1 + i) else none))))))] ++ zmR E2.1.1 q43 ++ [(q54, .inl (E2.1.1, 3100, .inl (fun _ => 0)))]) := hD
  refine lv_aload_n hx hb dX7_init_59 rfl (lv_at hl 0 rfl) ?_
  refine lv_sipush (v := (3100 : Int32)) hx hb dX7_init_60 (by decide) ?_
  refine zn_newa hx hb (hts _ (zm acI)) hK hP hD hS hA 3100 rfl (Nat.le_of_ble_eq_true rfl) (Nat.le_of_ble_eq_true rfl) (Nat.le_of_ble_eq_true rfl) dX7_init_63 (fun q63 H hP hD hS => ?_)
  refine W.widen (k := 17) (n := 7341) (Nat.le_of_ble_eq_true rfl) (Nat.le_of_ble_eq_true rfl) ?_
  refine va_put (D := E2.2) (ci := 5) (v := .ref q63) (ty := (.array .int)) (C := RX7) (T := TX7) (N := 8) hx hb hts (zmi inU_7) tyX7 tyX7_ok nmX7 hown hK hP hD hS 0 rfl rfl 7 (by decide) (hts _ (zm flRX7_36)) (fun _ h9 => h9) rfl (by decide +kernel) rfl rfl (Nat.le_of_ble_eq_true rfl) dX7_init_65 (fun H locs hP hD hS => ?_)
  have hP : va_P E2.2 vwCl ([(h0, .inr (5, [.int 0, .int 0, .ref q17, .ref q25, .ref q33, .ref q43, .ref q54, .ref q63]))] ++ [(q17, .inl (E2.1.1, 10, .inl (fun _ => 0)))] ++ [(q25, .inl (E2.1.1, 10, .inl (fun _ => 0)))] ++ [(q33, .inl (E2.1.1, 10, .inl (fun _ => 0)))] ++ [(q43, .inl (E2.1.2.2, 11, .inr (.inr (.inr (.inr (fun i => if i < 11 then some (q43 + 1 + i) else none))))))] ++ zmR E2.1.1 q43 ++ [(q54, .inl (E2.1.1, 3100, .inl (fun _ => 0)))] ++ [(q63, .inl (E2.1.1, 3100, .inl (fun _ => 0)))]) H := hP
  have hD : va_D A ([(h0, .inr (5, [.int 0, .int 0, .ref q17, .ref q25, .ref q33, .ref q43, .ref q54, .ref q63]))] ++ [(q17, .inl (E2.1.1, 10, .inl (fun _ => 0)))] ++ [(q25, .inl (E2.1.1, 10, .inl (fun _ => 0)))] ++ [(q33, .inl (E2.1.1, 10, .inl (fun _ => 0)))] ++ [(q43, .inl (E2.1.2.2, 11, .inr (.inr (.inr (.inr (fun i => if i < 11 then some (q43 + 1 + i) else none))))))] ++ zmR E2.1.1 q43 ++ [(q54, .inl (E2.1.1, 3100, .inl (fun _ => 0)))] ++ [(q63, .inl (E2.1.1, 3100, .inl (fun _ => 0)))]) := hD
  obtain ⟨F, hF⟩ : ∃ F : Nat → Nat, F = (fun i => if i < 1 then h0 else if i < 2 then q17 else if i < 3 then q25 else if i < 4 then q33 else if i < 5 then q43 else if i < 16 then q43 + 1 + (i - 5) else if i < 17 then q54 else if i < 18 then q63 else 0) := ⟨_, rfl⟩
  have hFr : ∀ j, j < 11 → F (5 + j) = q43 + 1 + j := fun j hj => by
    rw [hF]
    dsimp only
    rw [if_neg (by omega), if_neg (by omega), if_neg (by omega), if_neg (by omega), if_neg (by omega), if_pos (by omega), show 5 + j - 5 = j by omega]
  have e6 : (g0 70 6).toNatClampNeg = 0 := by decide
  have e7 : (g0 70 7).toNatClampNeg = 1 := by decide
  have s0 : zSg E2 70 F 0 1 = [(h0, .inr (5, [.int 0, .int 0, .ref q17, .ref q25, .ref q33, .ref q43, .ref q54, .ref q63]))] := by
    show [(F 0, zd (fun i => F (i - 70), E2) 70 (g0 70))] = _
    rw [zd_5 _ (by decide +kernel), e6, e7]
    subst hF
    rfl
  have b0 : zSg E2 70 F 1 1 = [(q17, .inl (E2.1.1, 10, .inl (fun _ => 0)))] := by
    show [(F 1, zd (fun i => F (i - 70), E2) 71 (g0 71))] = _
    rw [zd_11 _ (by decide +kernel)]
    subst hF
    rfl
  have s1 : zSg E2 70 F 0 2 = [(h0, .inr (5, [.int 0, .int 0, .ref q17, .ref q25, .ref q33, .ref q43, .ref q54, .ref q63]))] ++ [(q17, .inl (E2.1.1, 10, .inl (fun _ => 0)))] := (zSg_app E2 70 0 1 1 F).trans (by rw [s0]; exact congrArg (fun z => _ ++ z) b0)
  have b1 : zSg E2 70 F 2 1 = [(q25, .inl (E2.1.1, 10, .inl (fun _ => 0)))] := by
    show [(F 2, zd (fun i => F (i - 70), E2) 72 (g0 72))] = _
    rw [zd_11 _ (by decide +kernel)]
    subst hF
    rfl
  have s2 : zSg E2 70 F 0 3 = [(h0, .inr (5, [.int 0, .int 0, .ref q17, .ref q25, .ref q33, .ref q43, .ref q54, .ref q63]))] ++ [(q17, .inl (E2.1.1, 10, .inl (fun _ => 0)))] ++ [(q25, .inl (E2.1.1, 10, .inl (fun _ => 0)))] := (zSg_app E2 70 0 2 1 F).trans (by rw [s1]; exact congrArg (fun z => _ ++ z) b1)
  have b2 : zSg E2 70 F 3 1 = [(q33, .inl (E2.1.1, 10, .inl (fun _ => 0)))] := by
    show [(F 3, zd (fun i => F (i - 70), E2) 73 (g0 73))] = _
    rw [zd_11 _ (by decide +kernel)]
    subst hF
    rfl
  have s3 : zSg E2 70 F 0 4 = [(h0, .inr (5, [.int 0, .int 0, .ref q17, .ref q25, .ref q33, .ref q43, .ref q54, .ref q63]))] ++ [(q17, .inl (E2.1.1, 10, .inl (fun _ => 0)))] ++ [(q25, .inl (E2.1.1, 10, .inl (fun _ => 0)))] ++ [(q33, .inl (E2.1.1, 10, .inl (fun _ => 0)))] := (zSg_app E2 70 0 3 1 F).trans (by rw [s2]; exact congrArg (fun z => _ ++ z) b2)
  have b3 : zSg E2 70 F 4 1 = [(q43, .inl (E2.1.2.2, 11, .inr (.inr (.inr (.inr (fun i => if i < 11 then some (q43 + 1 + i) else none))))))] := by
    show [(F 4, zd (fun i => F (i - 70), E2) 74 (g0 74))] = _
    rw [zd_13 _ (by decide +kernel)]
    have fe : (fun i => if i < 11 then some (F (74 + 1 + i - 70)) else none) = (fun i => if i < 11 then some (q43 + 1 + i) else none) := by
      funext i
      by_cases hi : i < 11
      · rw [if_pos hi, if_pos hi, show 74 + 1 + i - 70 = 5 + i by omega, hFr i hi]
      · rw [if_neg hi, if_neg hi]
    dsimp only
    rw [fe, hF]
    rfl
  have s4 : zSg E2 70 F 0 5 = [(h0, .inr (5, [.int 0, .int 0, .ref q17, .ref q25, .ref q33, .ref q43, .ref q54, .ref q63]))] ++ [(q17, .inl (E2.1.1, 10, .inl (fun _ => 0)))] ++ [(q25, .inl (E2.1.1, 10, .inl (fun _ => 0)))] ++ [(q33, .inl (E2.1.1, 10, .inl (fun _ => 0)))] ++ [(q43, .inl (E2.1.2.2, 11, .inr (.inr (.inr (.inr (fun i => if i < 11 then some (q43 + 1 + i) else none))))))] := (zSg_app E2 70 0 4 1 F).trans (by rw [s3]; exact congrArg (fun z => _ ++ z) b3)
  have b4 : zSg E2 70 F 5 11 = zmR E2.1.1 q43 := by
    unfold zSg zmR
    refine List.map_congr_left (fun j hj => ?_)
    have hj := List.mem_range.mp hj
    rw [hFr j hj]
    refine congrArg (fun z => (_, z)) ?_
    rcases (show j = 0 ∨ j = 1 ∨ j = 2 ∨ j = 3 ∨ j = 4 ∨ j = 5 ∨ j = 6 ∨ j = 7 ∨ j = 8 ∨ j = 9 ∨ j = 10 by omega) with rfl | rfl | rfl | rfl | rfl | rfl | rfl | rfl | rfl | rfl | rfl <;> rfl
  have s5 : zSg E2 70 F 0 16 = [(h0, .inr (5, [.int 0, .int 0, .ref q17, .ref q25, .ref q33, .ref q43, .ref q54, .ref q63]))] ++ [(q17, .inl (E2.1.1, 10, .inl (fun _ => 0)))] ++ [(q25, .inl (E2.1.1, 10, .inl (fun _ => 0)))] ++ [(q33, .inl (E2.1.1, 10, .inl (fun _ => 0)))] ++ [(q43, .inl (E2.1.2.2, 11, .inr (.inr (.inr (.inr (fun i => if i < 11 then some (q43 + 1 + i) else none))))))] ++ zmR E2.1.1 q43 := (zSg_app E2 70 0 5 11 F).trans (by rw [s4]; exact congrArg (fun z => _ ++ z) b4)
  have b5 : zSg E2 70 F 16 1 = [(q54, .inl (E2.1.1, 3100, .inl (fun _ => 0)))] := by
    show [(F 16, zd (fun i => F (i - 70), E2) 86 (g0 86))] = _
    rw [zd_11 _ (by decide +kernel)]
    subst hF
    rfl
  have s6 : zSg E2 70 F 0 17 = [(h0, .inr (5, [.int 0, .int 0, .ref q17, .ref q25, .ref q33, .ref q43, .ref q54, .ref q63]))] ++ [(q17, .inl (E2.1.1, 10, .inl (fun _ => 0)))] ++ [(q25, .inl (E2.1.1, 10, .inl (fun _ => 0)))] ++ [(q33, .inl (E2.1.1, 10, .inl (fun _ => 0)))] ++ [(q43, .inl (E2.1.2.2, 11, .inr (.inr (.inr (.inr (fun i => if i < 11 then some (q43 + 1 + i) else none))))))] ++ zmR E2.1.1 q43 ++ [(q54, .inl (E2.1.1, 3100, .inl (fun _ => 0)))] := (zSg_app E2 70 0 16 1 F).trans (by rw [s5]; exact congrArg (fun z => _ ++ z) b5)
  have b6 : zSg E2 70 F 17 1 = [(q63, .inl (E2.1.1, 3100, .inl (fun _ => 0)))] := by
    show [(F 17, zd (fun i => F (i - 70), E2) 87 (g0 87))] = _
    rw [zd_11 _ (by decide +kernel)]
    subst hF
    rfl
  have s7 : zSg E2 70 F 0 18 = [(h0, .inr (5, [.int 0, .int 0, .ref q17, .ref q25, .ref q33, .ref q43, .ref q54, .ref q63]))] ++ [(q17, .inl (E2.1.1, 10, .inl (fun _ => 0)))] ++ [(q25, .inl (E2.1.1, 10, .inl (fun _ => 0)))] ++ [(q33, .inl (E2.1.1, 10, .inl (fun _ => 0)))] ++ [(q43, .inl (E2.1.2.2, 11, .inr (.inr (.inr (.inr (fun i => if i < 11 then some (q43 + 1 + i) else none))))))] ++ zmR E2.1.1 q43 ++ [(q54, .inl (E2.1.1, 3100, .inl (fun _ => 0)))] ++ [(q63, .inl (E2.1.1, 3100, .inl (fun _ => 0)))] := (zSg_app E2 70 0 17 1 F).trans (by rw [s6]; exact congrArg (fun z => _ ++ z) b6)
  have eA : zS E2 70 18 F = [(h0, .inr (5, [.int 0, .int 0, .ref q17, .ref q25, .ref q33, .ref q43, .ref q54, .ref q63]))] ++ [(q17, .inl (E2.1.1, 10, .inl (fun _ => 0)))] ++ [(q25, .inl (E2.1.1, 10, .inl (fun _ => 0)))] ++ [(q33, .inl (E2.1.1, 10, .inl (fun _ => 0)))] ++ [(q43, .inl (E2.1.2.2, 11, .inr (.inr (.inr (.inr (fun i => if i < 11 then some (q43 + 1 + i) else none))))))] ++ zmR E2.1.1 q43 ++ [(q54, .inl (E2.1.1, 3100, .inl (fun _ => 0)))] ++ [(q63, .inl (E2.1.1, 3100, .inl (fun _ => 0)))] := (zSg_all E2 70 18 F).trans s7
  rw [← eA] at hP hD
  have hF0 : F 0 = h0 := by rw [hF]; rfl
  exact W.vret hx hb hr (fun t ht hW => ⟨⟨F, rfl, hF0, by rw [ht]; exact hP, va_K.moved hW.alike hK, hD⟩, hS.F ht⟩) hS.2.2 dX7_init_68
