/-! laid by wip/whole/vcg.py -/
theorem flRX11_37 : Cond.fieldLink RX11 37 "WetSuitPedalsShoes" "refusals" "[I" ∈ zU := zU_m 277 (by decide +kernel) rfl
set_option maxHeartbeats 4000000 in
set_option maxRecDepth 100000 in
theorem c_X11_refuse (l : Launch) (E : zE) (G : zG) (cd : Int32) (k : Nat) (hk0 : 0 < k) (hk : k < 7) (hcd : -cd = nI k) : zMi l yX11_refuse wsX11_refuse ({ frames := 0, cells := 0, slots := 0, locals := 0 } : Room) E G [.ref (E.1 0), .int cd] (fun r G1 => cd = r ∧ g1 G 47 (upd (G 47) k (G 47 k + 1)) = G1) := by
  refine zOf (cc := cX11_refuse) (nL := 3) (ret := (some .int)) RX11 (by decide) rfl rfl (Nat.le_of_ble_eq_true rfl) ?_
  intro p_ e_ s_ m_ a_ b_ me_ c_ ls C0 hP hS hl
  have hx := C0.1
  have hb := C0.2.1
  have hts := C0.2.2.2.2.1
  have hD : zD E (zA E s_.heap.size) := C0.2.2.2.2.2.2.2.2
  have hA : ∀ q : Nat, s_.heap.size ≤ q → zA E s_.heap.size q := fun q h => Or.inr h
  refine z_gen (fun Q_ hQ_ => ?_)
  have hl : lv_has ls 3 [(0, .ref (E.1 0)), (1, .int cd)] := hl
  refine lv_iload_n hx hb dX11_refuse_0 rfl (lv_at hl 1 rfl) ?_
  refine lv_ineg hx hb dX11_refuse_1 ?_
  refine z_eqi (y := (nI k)) (hcd) ?_
  refine lv_istore_n (lv' := [(2, .int (nI k)), (0, .ref (E.1 0)), (1, .int cd)]) hx hb dX11_refuse_2 rfl hl (by decide) rfl (fun ls hl => ?_)
  refine lv_iload_n hx hb dX11_refuse_3 rfl (lv_at hl 0 rfl) ?_
  refine z_0_le hx hb (a := k) (tgt := 26) dX11_refuse_4 rfl (by omega) (by decide) (fun c_4 => ?_) (fun c_4 => ?_)
  · exact absurd c_4 (by omega)
  · skip
    refine lv_iload_n hx hb dX11_refuse_7 rfl (lv_at hl 0 rfl) ?_
    refine lv_aload_n hx hb dX11_refuse_8 rfl (lv_at hl 1 rfl) ?_
    refine z_get C0 hP (C := RX11) (T := TX11) (N := 11) (ci := 9) (index := 37) (k := 0) (ref := "WetSuitPedalsShoes") (zk_lt (rfl : zk 0 = 9) (by decide)) (zd_9 E (rfl : zk 0 = 9) _) rfl (zmi inU_11) 5 (by decide) (zm flRX11_37) rfl (v := .ref (E.1 47)) (rfl) dX11_refuse_9 ?_
    refine z_alen C0 hP (k := 47) (v := (7 : Int32)) (rfl : zk 47 = 11) ((congrArg Int32.ofNat (rfl : zl 47 = 7)).trans rfl) dX11_refuse_12 ?_
    refine z_N_ge hx hb (a := k) (b := 7) (tgt := 26) dX11_refuse_13 rfl rfl (by omega) (by omega) (by decide) (fun c_13 => ?_) (fun c_13 => ?_)
    · exact absurd c_13 (by omega)
    · skip
      refine lv_aload_n hx hb dX11_refuse_16 rfl (lv_at hl 1 rfl) ?_
      refine z_get C0 hP (C := RX11) (T := TX11) (N := 11) (ci := 9) (index := 37) (k := 0) (ref := "WetSuitPedalsShoes") (zk_lt (rfl : zk 0 = 9) (by decide)) (zd_9 E (rfl : zk 0 = 9) _) rfl (zmi inU_11) 5 (by decide) (zm flRX11_37) rfl (v := .ref (E.1 47)) (rfl) dX11_refuse_17 ?_
      refine lv_iload_n hx hb dX11_refuse_20 rfl (lv_at hl 0 rfl) ?_
      refine lv_dup2_11 hx hb dX11_refuse_21 rfl rfl ?_
      refine z_iald C0 hP (k := 47) (i := k) (v := (G 47 k)) (rfl : zk 47 = 11) (Nat.lt_of_lt_of_eq (show k < 7 by omega) (rfl : zl 47 = 7).symm) rfl dX11_refuse_22 (rfl) ?_
      refine lv_iconst (v := (1 : Int32)) hx hb dX11_refuse_23 (by decide) ?_
      refine lv_iadd hx hb dX11_refuse_24 ?_
      refine z_iast C0 hP hD hS (k := 47) (i := k) (v := ((G 47 k) + (1 : Int32))) (F := G 47) (rfl) (rfl : zk 47 = 11) (Nat.lt_of_lt_of_eq (show k < 7 by omega) (rfl : zl 47 = 7).symm) rfl dX11_refuse_25 (fun H locs hP hS => ?_)
      refine lv_iload_n hx hb dX11_refuse_26 rfl (lv_at hl 2 rfl) ?_
      subst hQ_
      exact z_iret C0 hP hS (v := cd) (by exact ⟨rfl, rfl⟩) dX11_refuse_27
theorem flRX11_10 : Cond.fieldLink RX11 10 "WetSuitPedalsShoes" "field" "LWetSuitPedalsShoes$Field;" ∈ zU := zU_m 272 (by decide +kernel) rfl
theorem flRX11_93 : Cond.fieldLink RX11 93 "WetSuitPedalsShoes$Field" "course" "LWetSuitPedalsShoes$Course;" ∈ zU := zU_m 131 (by decide +kernel) rfl
theorem mlRX11_97 : Cond.methodLink RX11 97 yX1_has ∈ zU := zU_m 417 (by decide +kernel) rfl
theorem mlRX11_72 : Cond.methodLink RX11 72 yX11_refuse ∈ zU := zU_m 310 (by decide +kernel) rfl
theorem coX11_refuse : Cond.code yX11_refuse cX11_refuse 3 (some .int) ∈ zU := zU_m 313 (by decide +kernel) rfl
theorem imX11_refuse : Cond.instanceMethod yX11_refuse ∈ zU := zU_m 312 (by decide +kernel) rfl
theorem seX11_refuse : Cond.selects RX11 yX11_refuse yX11_refuse ∈ zU := zU_m 0 (by decide +kernel) rfl
theorem iniRX11 : Cond.initialized RX11 ∈ zU := zU_m 48 (by decide +kernel) rfl
theorem flRX11_103 : Cond.fieldLink RX11 103 "WetSuitPedalsShoes$Course" "kind" "[I" ∈ zU := zU_m 92 (by decide +kernel) rfl
theorem flRX11_106 : Cond.fieldLink RX11 106 "WetSuitPedalsShoes$Course" "figure" "[I" ∈ zU := zU_m 94 (by decide +kernel) rfl
theorem flRX11_109 : Cond.fieldLink RX11 109 "WetSuitPedalsShoes$Course" "length" "[I" ∈ zU := zU_m 98 (by decide +kernel) rfl
theorem mlRX11_112 : Cond.methodLink RX11 112 yX4_takes ∈ zU := zU_m 418 (by decide +kernel) rfl
set_option maxHeartbeats 4000000 in
set_option maxRecDepth 100000 in
theorem c_X11_section (l : Launch) (E : zE) (G : zG) (r : Nat → Int32) (n na : Nat) (sect what : Int32) (hR : zFA G 1 r n na) (hn10 : n ≤ 10) (hna : na ≤ 5) (hp : zPl G) : zMi l yX11_section wsX11_section ({ frames := 1, cells := 0, slots := 0, locals := 22 } : Room) E G [.ref (E.1 0), .int sect, .int what] (fun r1 G1 => zQc (A_section r n sect what) G r1 G1) := by
  refine zOf (cc := cX11_section) (nL := 3) (ret := (some .int)) RX11 (by decide) rfl rfl (Nat.le_of_ble_eq_true rfl) ?_
  intro p_ e_ s_ m_ a_ b_ me_ c_ ls C0 hP hS hl
  have hx := C0.1
  have hb := C0.2.1
  have hts := C0.2.2.2.2.1
  have hD : zD E (zA E s_.heap.size) := C0.2.2.2.2.2.2.2.2
  have hA : ∀ q : Nat, s_.heap.size ≤ q → zA E s_.heap.size q := fun q h => Or.inr h
  refine z_gen (fun Q_ hQ_ => ?_)
  have hl : lv_has ls 3 [(0, .ref (E.1 0)), (1, .int sect), (2, .int what)] := hl
  refine lv_aload_n hx hb dX11_section_0 rfl (lv_at hl 0 rfl) ?_
  refine z_get C0 hP (C := RX11) (T := TX11) (N := 11) (ci := 9) (index := 10) (k := 0) (ref := "WetSuitPedalsShoes") (zk_lt (rfl : zk 0 = 9) (by decide)) (zd_9 E (rfl : zk 0 = 9) _) rfl (zmi inU_11) 0 (by decide) (zm flRX11_10) rfl (v := .ref (E.1 1)) (rfl) dX11_section_1 ?_
  refine z_get C0 hP (C := RX3) (T := TX3) (N := 3) (ci := 3) (index := 93) (k := 1) (ref := "WetSuitPedalsShoes$Field") (zk_lt (rfl : zk 1 = 3) (by decide)) (zd_3 E (rfl : zk 1 = 3) _) rfl (zmi inU_3) 0 (by decide) (zm flRX11_93) rfl (v := .ref (E.1 2)) (rfl) dX11_section_4 ?_
  refine lv_iload_n hx hb dX11_section_7 rfl (lv_at hl 1 rfl) ?_
  refine z_Vi C0 hP hD hA hS (As := [.int sect]) (rest := []) (k := 2) (c_X1_has l E _ 2 n sect z_lit_Cou_2 (hR.1) (by omega)) (cwV 1 hts (zgV zbw mlRX11_97 imX1_has seX1_has iniRX1 coX1_has) rfl rfl rfl (by decide +kernel) ⟨Nat.le_of_ble_eq_true rfl, Nat.le_of_ble_eq_true rfl⟩) (zk_lt (rfl : zk 2 = 1) (by decide)) (zd_1 E (rfl : zk 2 = 1) _) rfl rfl rfl hl.1 rfl (Nat.le_of_ble_eq_true rfl) dX11_section_8 ⟨Nat.zero_le _, Nat.zero_le _⟩ (fun r1 G1 H locs hw1 hP hS => ?_)
  rcases hw1 with ⟨rfl, rfl, is, his, rfl⟩ | ⟨rfl, rfl, hno1⟩
  · skip
    have hz_is := zin_t his (by omega)
    have hy_is : zix (nI is) = is := zix_n (by omega)
    refine lv_if_ne (tgt := 20) hx hb dX11_section_11 (by decide) (fun _ => ?_) (fun h_ => absurd h_ (by decide))
    refine lv_iload_n hx hb dX11_section_20 rfl (lv_at hl 2 rfl) ?_
    rcases z_sw (what) 0 4 with hsw | ⟨k_, hk_, hsw⟩
    · skip
      refine lv_tableOut (tgt := 107) hx hb dX11_section_21 (z_swo hsw rfl rfl) (by decide) ?_
      have hsn_21_0 : ¬ what = (0 : Int32) := fun q => by rw [q] at hsw; revert hsw; decide
      have hsn_21_1 : ¬ what = (1 : Int32) := fun q => by rw [q] at hsw; revert hsw; decide
      have hsn_21_2 : ¬ what = (2 : Int32) := fun q => by rw [q] at hsw; revert hsw; decide
      have hsn_21_3 : ¬ what = (3 : Int32) := fun q => by rw [q] at hsw; revert hsw; decide
      refine lv_aload_n hx hb dX11_section_107 rfl (lv_at hl 0 rfl) ?_
      refine lv_bipush (v := (-2 : Int32)) hx hb dX11_section_108 (by decide) ?_
      refine z_Vi C0 hP hD hA hS (As := [.int (-2 : Int32)]) (rest := []) (k := 0) (c_X11_refuse l E _ (-2 : Int32) 2 (by decide) (by decide) (by decide)) (cwV 1 hts (zgV zbw mlRX11_72 imX11_refuse seX11_refuse iniRX11 coX11_refuse) rfl rfl rfl (by decide +kernel) ⟨Nat.le_of_ble_eq_true rfl, Nat.le_of_ble_eq_true rfl⟩) (zk_lt (rfl : zk 0 = 9) (by decide)) (zd_9 E (rfl : zk 0 = 9) _) rfl rfl rfl hl.1 rfl (Nat.le_of_ble_eq_true rfl) dX11_section_110 ⟨Nat.zero_le _, Nat.zero_le _⟩ (fun r2 G2 H locs hw2 hP hS => ?_)
      obtain ⟨rfl, rfl⟩ := hw2
      subst hQ_
      exact z_iret C0 hP hS (v := (-2 : Int32)) (by have hq9 := z_out3 hsn_21_0 hsn_21_1 hsn_21_2; exact zQc_of (k := 2) (by simp [A_section, hz_is, hy_is, hsn_21_0, hsn_21_1, hsn_21_2, hsn_21_3, hq9]) (fun k hk => g1_n (by omega)) (g1_s _ _ _) (z_plk (g1_n (by decide)) hp)) dX11_section_113
    · skip
      rcases (show k_ = 0 ∨ k_ = 1 ∨ k_ = 2 ∨ k_ = 3 by omega) with rfl | rfl | rfl | rfl
      · skip
        have hsw_21 : what = (0 : Int32) := z_swi hsw (by decide)
        refine lv_tableIn (tgt := 52) (off := 31) hx hb dX11_section_21 (by rw [hsw_21]; decide) (by rw [hsw_21]; decide) (by rw [hsw_21]; rfl) (by decide) ?_
        refine lv_aload_n hx hb dX11_section_52 rfl (lv_at hl 0 rfl) ?_
        refine z_get C0 hP (C := RX11) (T := TX11) (N := 11) (ci := 9) (index := 10) (k := 0) (ref := "WetSuitPedalsShoes") (zk_lt (rfl : zk 0 = 9) (by decide)) (zd_9 E (rfl : zk 0 = 9) _) rfl (zmi inU_11) 0 (by decide) (zm flRX11_10) rfl (v := .ref (E.1 1)) (rfl) dX11_section_53 ?_
        refine z_get C0 hP (C := RX3) (T := TX3) (N := 3) (ci := 3) (index := 93) (k := 1) (ref := "WetSuitPedalsShoes$Field") (zk_lt (rfl : zk 1 = 3) (by decide)) (zd_3 E (rfl : zk 1 = 3) _) rfl (zmi inU_3) 0 (by decide) (zm flRX11_93) rfl (v := .ref (E.1 2)) (rfl) dX11_section_56 ?_
        refine z_get C0 hP (C := RX1) (T := TX1) (N := 4) (ci := 1) (index := 103) (k := 2) (ref := "WetSuitPedalsShoes$Course") (zk_lt (rfl : zk 2 = 1) (by decide)) (zd_1 E (rfl : zk 2 = 1) _) rfl (zmi inU_1) 1 (by decide) (zm flRX11_103) rfl (v := .ref (E.1 3)) (rfl) dX11_section_59 ?_
        refine lv_iload_n hx hb dX11_section_62 rfl (lv_at hl 1 rfl) ?_
        refine z_iald C0 hP (k := 3) (i := is) (v := (r (2 + 3 * is))) (rfl : zk 3 = 11) (Nat.lt_of_lt_of_eq (show is < 10 by omega) (rfl : zl 3 = 10).symm) rfl dX11_section_63 ((hR.2.2.1 is (by omega)).1) ?_
        subst hQ_
        exact z_iret C0 hP hS (v := (r (2 + 3 * is))) (by exact zQc_of (k := 0) (by simp [A_section, hz_is, hy_is, hsw_21, z_213, z_214, zix_0c, zix_1c, zix_2c]) (fun k hk => rfl) (rfl) (hp)) dX11_section_64
      · skip
        have hsw_21 : what = (1 : Int32) := z_swi hsw (by decide)
        refine lv_tableIn (tgt := 65) (off := 44) hx hb dX11_section_21 (by rw [hsw_21]; decide) (by rw [hsw_21]; decide) (by rw [hsw_21]; rfl) (by decide) ?_
        refine lv_aload_n hx hb dX11_section_65 rfl (lv_at hl 0 rfl) ?_
        refine z_get C0 hP (C := RX11) (T := TX11) (N := 11) (ci := 9) (index := 10) (k := 0) (ref := "WetSuitPedalsShoes") (zk_lt (rfl : zk 0 = 9) (by decide)) (zd_9 E (rfl : zk 0 = 9) _) rfl (zmi inU_11) 0 (by decide) (zm flRX11_10) rfl (v := .ref (E.1 1)) (rfl) dX11_section_66 ?_
        refine z_get C0 hP (C := RX3) (T := TX3) (N := 3) (ci := 3) (index := 93) (k := 1) (ref := "WetSuitPedalsShoes$Field") (zk_lt (rfl : zk 1 = 3) (by decide)) (zd_3 E (rfl : zk 1 = 3) _) rfl (zmi inU_3) 0 (by decide) (zm flRX11_93) rfl (v := .ref (E.1 2)) (rfl) dX11_section_69 ?_
        refine z_get C0 hP (C := RX1) (T := TX1) (N := 4) (ci := 1) (index := 106) (k := 2) (ref := "WetSuitPedalsShoes$Course") (zk_lt (rfl : zk 2 = 1) (by decide)) (zd_1 E (rfl : zk 2 = 1) _) rfl (zmi inU_1) 2 (by decide) (zm flRX11_106) rfl (v := .ref (E.1 4)) (rfl) dX11_section_72 ?_
        refine lv_iload_n hx hb dX11_section_75 rfl (lv_at hl 1 rfl) ?_
        refine z_iald C0 hP (k := 4) (i := is) (v := (r (3 + 3 * is))) (rfl : zk 4 = 11) (Nat.lt_of_lt_of_eq (show is < 10 by omega) (rfl : zl 4 = 10).symm) rfl dX11_section_76 ((hR.2.2.1 is (by omega)).2.1) ?_
        subst hQ_
        exact z_iret C0 hP hS (v := (r (3 + 3 * is))) (by exact zQc_of (k := 0) (by simp [A_section, hz_is, hy_is, hsw_21, z_213, z_214, zix_0c, zix_1c, zix_2c]) (fun k hk => rfl) (rfl) (hp)) dX11_section_77
      · skip
        have hsw_21 : what = (2 : Int32) := z_swi hsw (by decide)
        refine lv_tableIn (tgt := 78) (off := 57) hx hb dX11_section_21 (by rw [hsw_21]; decide) (by rw [hsw_21]; decide) (by rw [hsw_21]; rfl) (by decide) ?_
        refine lv_aload_n hx hb dX11_section_78 rfl (lv_at hl 0 rfl) ?_
        refine z_get C0 hP (C := RX11) (T := TX11) (N := 11) (ci := 9) (index := 10) (k := 0) (ref := "WetSuitPedalsShoes") (zk_lt (rfl : zk 0 = 9) (by decide)) (zd_9 E (rfl : zk 0 = 9) _) rfl (zmi inU_11) 0 (by decide) (zm flRX11_10) rfl (v := .ref (E.1 1)) (rfl) dX11_section_79 ?_
        refine z_get C0 hP (C := RX3) (T := TX3) (N := 3) (ci := 3) (index := 93) (k := 1) (ref := "WetSuitPedalsShoes$Field") (zk_lt (rfl : zk 1 = 3) (by decide)) (zd_3 E (rfl : zk 1 = 3) _) rfl (zmi inU_3) 0 (by decide) (zm flRX11_93) rfl (v := .ref (E.1 2)) (rfl) dX11_section_82 ?_
        refine z_get C0 hP (C := RX1) (T := TX1) (N := 4) (ci := 1) (index := 109) (k := 2) (ref := "WetSuitPedalsShoes$Course") (zk_lt (rfl : zk 2 = 1) (by decide)) (zd_1 E (rfl : zk 2 = 1) _) rfl (zmi inU_1) 3 (by decide) (zm flRX11_109) rfl (v := .ref (E.1 5)) (rfl) dX11_section_85 ?_
        refine lv_iload_n hx hb dX11_section_88 rfl (lv_at hl 1 rfl) ?_
        refine z_iald C0 hP (k := 5) (i := is) (v := (r (4 + 3 * is))) (rfl : zk 5 = 11) (Nat.lt_of_lt_of_eq (show is < 10 by omega) (rfl : zl 5 = 10).symm) rfl dX11_section_89 ((hR.2.2.1 is (by omega)).2.2) ?_
        subst hQ_
        exact z_iret C0 hP hS (v := (r (4 + 3 * is))) (by exact zQc_of (k := 0) (by simp [A_section, hz_is, hy_is, hsw_21, z_213, z_214, zix_0c, zix_1c, zix_2c]) (fun k hk => rfl) (rfl) (hp)) dX11_section_90
      · skip
        have hsw_21 : what = (3 : Int32) := z_swi hsw (by decide)
        refine lv_tableIn (tgt := 91) (off := 70) hx hb dX11_section_21 (by rw [hsw_21]; decide) (by rw [hsw_21]; decide) (by rw [hsw_21]; rfl) (by decide) ?_
        refine lv_aload_n hx hb dX11_section_91 rfl (lv_at hl 0 rfl) ?_
        refine z_get C0 hP (C := RX11) (T := TX11) (N := 11) (ci := 9) (index := 10) (k := 0) (ref := "WetSuitPedalsShoes") (zk_lt (rfl : zk 0 = 9) (by decide)) (zd_9 E (rfl : zk 0 = 9) _) rfl (zmi inU_11) 0 (by decide) (zm flRX11_10) rfl (v := .ref (E.1 1)) (rfl) dX11_section_92 ?_
        refine z_get C0 hP (C := RX3) (T := TX3) (N := 3) (ci := 3) (index := 93) (k := 1) (ref := "WetSuitPedalsShoes$Field") (zk_lt (rfl : zk 1 = 3) (by decide)) (zd_3 E (rfl : zk 1 = 3) _) rfl (zmi inU_3) 0 (by decide) (zm flRX11_93) rfl (v := .ref (E.1 2)) (rfl) dX11_section_95 ?_
        refine z_get C0 hP (C := RX1) (T := TX1) (N := 4) (ci := 1) (index := 103) (k := 2) (ref := "WetSuitPedalsShoes$Course") (zk_lt (rfl : zk 2 = 1) (by decide)) (zd_1 E (rfl : zk 2 = 1) _) rfl (zmi inU_1) 1 (by decide) (zm flRX11_103) rfl (v := .ref (E.1 3)) (rfl) dX11_section_98 ?_
        refine lv_iload_n hx hb dX11_section_101 rfl (lv_at hl 1 rfl) ?_
        refine z_iald C0 hP (k := 3) (i := is) (v := (r (2 + 3 * is))) (rfl : zk 3 = 11) (Nat.lt_of_lt_of_eq (show is < 10 by omega) (rfl : zl 3 = 10).symm) rfl dX11_section_102 ((hR.2.2.1 is (by omega)).1) ?_
        refine z_Si C0 hP hD hA hS (As := [.int (r (2 + 3 * is))]) (rest := []) (c_X4_takes l E _ (r (2 + 3 * is))) (va_cwS 1 hts (zgS zbw mlRX11_112 stX4_takes iniRX4 coX4_takes) rfl rfl rfl (by decide +kernel) ⟨Nat.le_of_ble_eq_true rfl, Nat.le_of_ble_eq_true rfl⟩) rfl hl.1 rfl (Nat.le_of_ble_eq_true rfl) dX11_section_103 ⟨Nat.zero_le _, Nat.zero_le _⟩ (fun r3 G3 H locs hw3 hP hS => ?_)
        obtain ⟨rfl, rfl⟩ := hw3
        subst hQ_
        exact z_iret C0 hP hS (v := (s_takes (r (2 + 3 * is)))) (by exact zQc_of (k := 0) (by simp [A_section, hz_is, hy_is, hsw_21, z_213, z_214, zix_0c, zix_1c, zix_2c]) (fun k hk => rfl) (rfl) (hp)) dX11_section_106
  · skip
    have hz_is := zin_f (by omega) hno1
    refine lv_if_ne (tgt := 20) hx hb dX11_section_11 (by decide) (fun h_ => absurd (by decide) h_) (fun _ => ?_)
    refine lv_aload_n hx hb dX11_section_14 rfl (lv_at hl 0 rfl) ?_
    refine lv_iconst (v := (-1 : Int32)) hx hb dX11_section_15 (by decide) ?_
    refine z_Vi C0 hP hD hA hS (As := [.int (-1 : Int32)]) (rest := []) (k := 0) (c_X11_refuse l E _ (-1 : Int32) 1 (by decide) (by decide) (by decide)) (cwV 1 hts (zgV zbw mlRX11_72 imX11_refuse seX11_refuse iniRX11 coX11_refuse) rfl rfl rfl (by decide +kernel) ⟨Nat.le_of_ble_eq_true rfl, Nat.le_of_ble_eq_true rfl⟩) (zk_lt (rfl : zk 0 = 9) (by decide)) (zd_9 E (rfl : zk 0 = 9) _) rfl rfl rfl hl.1 rfl (Nat.le_of_ble_eq_true rfl) dX11_section_16 ⟨Nat.zero_le _, Nat.zero_le _⟩ (fun r4 G4 H locs hw4 hP hS => ?_)
    obtain ⟨rfl, rfl⟩ := hw4
    subst hQ_
    exact z_iret C0 hP hS (v := (-1 : Int32)) (by exact zQc_of (k := 1) (by simp [A_section, hz_is]) (fun k hk => g1_n (by omega)) (g1_s _ _ _) (z_plk (g1_n (by decide)) hp)) dX11_section_19
theorem mlRX11_117 : Cond.methodLink RX11 117 yX3_has ∈ zU := zU_m 425 (by decide +kernel) rfl
theorem coX3_has : Cond.code yX3_has cX3_has 2 (some .boolean) ∈ zU := zU_m 397 (by decide +kernel) rfl
theorem imX3_has : Cond.instanceMethod yX3_has ∈ zU := zU_m 395 (by decide +kernel) rfl
theorem seX3_has : Cond.selects RX3 yX3_has yX3_has ∈ zU := zU_m 396 (by decide +kernel) rfl
theorem iniRX3 : Cond.initialized RX3 ∈ zU := zU_m 49 (by decide +kernel) rfl
theorem flRX11_118 : Cond.fieldLink RX11 118 "WetSuitPedalsShoes$Field" "athletes" "[LWetSuitPedalsShoes$Athlete;" ∈ zU := zU_m 134 (by decide +kernel) rfl
theorem flRX11_122 : Cond.fieldLink RX11 122 "WetSuitPedalsShoes$Athlete" "able" "[I" ∈ zU := zU_m 119 (by decide +kernel) rfl
set_option maxHeartbeats 4000000 in
set_option maxRecDepth 100000 in
theorem c_X11_athlete (l : Launch) (E : zE) (G : zG) (r : Nat → Int32) (n na : Nat) (athlete what : Int32) (hR : zFA G 1 r n na) (hn10 : n ≤ 10) (hna : na ≤ 5) (hp : zPl G) : zMi l yX11_athlete wsX11_athlete ({ frames := 1, cells := 0, slots := 0, locals := 22 } : Room) E G [.ref (E.1 0), .int athlete, .int what] (fun r1 G1 => zQc (A_athlete r na athlete what) G r1 G1) := by
  refine zOf (cc := cX11_athlete) (nL := 3) (ret := (some .int)) RX11 (by decide) rfl rfl (Nat.le_of_ble_eq_true rfl) ?_
  intro p_ e_ s_ m_ a_ b_ me_ c_ ls C0 hP hS hl
  have hx := C0.1
  have hb := C0.2.1
  have hts := C0.2.2.2.2.1
  have hD : zD E (zA E s_.heap.size) := C0.2.2.2.2.2.2.2.2
  have hA : ∀ q : Nat, s_.heap.size ≤ q → zA E s_.heap.size q := fun q h => Or.inr h
  refine z_gen (fun Q_ hQ_ => ?_)
  have hl : lv_has ls 3 [(0, .ref (E.1 0)), (1, .int athlete), (2, .int what)] := hl
  refine lv_aload_n hx hb dX11_athlete_0 rfl (lv_at hl 0 rfl) ?_
  refine z_get C0 hP (C := RX11) (T := TX11) (N := 11) (ci := 9) (index := 10) (k := 0) (ref := "WetSuitPedalsShoes") (zk_lt (rfl : zk 0 = 9) (by decide)) (zd_9 E (rfl : zk 0 = 9) _) rfl (zmi inU_11) 0 (by decide) (zm flRX11_10) rfl (v := .ref (E.1 1)) (rfl) dX11_athlete_1 ?_
  refine lv_iload_n hx hb dX11_athlete_4 rfl (lv_at hl 1 rfl) ?_
  refine z_Vi C0 hP hD hA hS (As := [.int athlete]) (rest := []) (k := 1) (c_X3_has l E _ 1 na athlete z_lit_Fie_1 (hR.2.1) (by omega)) (cwV 1 hts (zgV zbw mlRX11_117 imX3_has seX3_has iniRX3 coX3_has) rfl rfl rfl (by decide +kernel) ⟨Nat.le_of_ble_eq_true rfl, Nat.le_of_ble_eq_true rfl⟩) (zk_lt (rfl : zk 1 = 3) (by decide)) (zd_3 E (rfl : zk 1 = 3) _) rfl rfl rfl hl.1 rfl (Nat.le_of_ble_eq_true rfl) dX11_athlete_5 ⟨Nat.zero_le _, Nat.zero_le _⟩ (fun r1 G1 H locs hw1 hP hS => ?_)
  rcases hw1 with ⟨rfl, rfl, ia, hia, rfl⟩ | ⟨rfl, rfl, hno1⟩
  · skip
    have hz_ia := zin_t hia (by omega)
    have hy_ia : zix (nI ia) = ia := zix_n (by omega)
    refine lv_if_ne (tgt := 17) hx hb dX11_athlete_8 (by decide) (fun _ => ?_) (fun h_ => absurd h_ (by decide))
    refine lv_iload_n hx hb dX11_athlete_17 rfl (lv_at hl 2 rfl) ?_
    refine lv_if_lt (tgt := 26) hx hb dX11_athlete_18 (by decide) (fun c_18 => ?_) (fun c_18 => ?_)
    · skip
      refine lv_aload_n hx hb dX11_athlete_26 rfl (lv_at hl 0 rfl) ?_
      refine lv_bipush (v := (-2 : Int32)) hx hb dX11_athlete_27 (by decide) ?_
      refine z_Vi C0 hP hD hA hS (As := [.int (-2 : Int32)]) (rest := []) (k := 0) (c_X11_refuse l E _ (-2 : Int32) 2 (by decide) (by decide) (by decide)) (cwV 1 hts (zgV zbw mlRX11_72 imX11_refuse seX11_refuse iniRX11 coX11_refuse) rfl rfl rfl (by decide +kernel) ⟨Nat.le_of_ble_eq_true rfl, Nat.le_of_ble_eq_true rfl⟩) (zk_lt (rfl : zk 0 = 9) (by decide)) (zd_9 E (rfl : zk 0 = 9) _) rfl rfl rfl hl.1 rfl (Nat.le_of_ble_eq_true rfl) dX11_athlete_29 ⟨Nat.zero_le _, Nat.zero_le _⟩ (fun r2 G2 H locs hw2 hP hS => ?_)
      obtain ⟨rfl, rfl⟩ := hw2
      subst hQ_
      exact z_iret C0 hP hS (v := (-2 : Int32)) (by exact zQc_of (k := 2) (by simp [A_athlete, hz_ia, hy_ia, c_18]) (fun k hk => g1_n (by omega)) (g1_s _ _ _) (z_plk (g1_n (by decide)) hp)) dX11_athlete_32
    · skip
      refine lv_iload_n hx hb dX11_athlete_21 rfl (lv_at hl 2 rfl) ?_
      refine lv_iconst (v := (3 : Int32)) hx hb dX11_athlete_22 (by decide) ?_
      refine lv_icmp_le (tgt := 33) hx hb dX11_athlete_23 (by decide) (fun c_23 => ?_) (fun c_23 => ?_)
      · skip
        have d_23 := Int32.not_lt.mpr c_23
        obtain ⟨wh, hwh, rfl⟩ := z_rng (m := 4) c_18 c_23 (by decide) (by decide)
        have hy_wh : zix (nI wh) = wh := zix_n (by omega)
        refine lv_aload_n hx hb dX11_athlete_33 rfl (lv_at hl 0 rfl) ?_
        refine z_get C0 hP (C := RX11) (T := TX11) (N := 11) (ci := 9) (index := 10) (k := 0) (ref := "WetSuitPedalsShoes") (zk_lt (rfl : zk 0 = 9) (by decide)) (zd_9 E (rfl : zk 0 = 9) _) rfl (zmi inU_11) 0 (by decide) (zm flRX11_10) rfl (v := .ref (E.1 1)) (rfl) dX11_athlete_34 ?_
        refine z_get C0 hP (C := RX3) (T := TX3) (N := 3) (ci := 3) (index := 118) (k := 1) (ref := "WetSuitPedalsShoes$Field") (zk_lt (rfl : zk 1 = 3) (by decide)) (zd_3 E (rfl : zk 1 = 3) _) rfl (zmi inU_3) 1 (by decide) (zm flRX11_118) rfl (v := .ref (E.1 6)) (rfl) dX11_athlete_37 ?_
        refine lv_iload_n hx hb dX11_athlete_40 rfl (lv_at hl 1 rfl) ?_
        refine z_aald C0 hP (k := 6) (i := ia) (rfl : zk 6 = 12) (by omega) rfl dX11_athlete_41 (fun at_3 hat_3 => ?_)
        have kat_3 : zIs at_3 tAth := hat_3 ▸ zIs_ath z_lit_Fie_1 (by omega)
        refine z_get C0 hP (C := RX0) (T := TX0) (N := 2) (ci := 0) (index := 122) (k := at_3) (ref := "WetSuitPedalsShoes$Athlete") (zk_lt (kat_3 (0, 0, 2) (by decide)).1 (by decide)) (zd_0 E (kat_3 (0, 0, 2) (by decide)).1 _) rfl (zmi inU_0) 0 (by decide) (zm flRX11_122) rfl (v := .ref (E.1 (at_3 + 1))) (rfl) dX11_athlete_42 ?_
        refine lv_iload_n hx hb dX11_athlete_45 rfl (lv_at hl 2 rfl) ?_
        refine z_iald C0 hP (k := (at_3 + 1)) (i := wh) (v := (r (32 + 4 * ia + wh))) (kat_3 (1, 11, 4) (by decide)).1 (Nat.lt_of_lt_of_eq (show wh < 4 by omega) (kat_3 (1, 11, 4) (by decide)).2.symm) rfl dX11_athlete_46 (z_ab hR hat_3 (by omega) (by omega)) ?_
        subst hQ_
        exact z_iret C0 hP hS (v := (r (32 + 4 * ia + wh))) (by exact zQc_of (k := 0) (by simp [A_athlete, hz_ia, hy_ia, c_18, d_23, hy_wh]) (fun k hk => rfl) (rfl) (hp)) dX11_athlete_47
      · skip
        have d_23 := Int32.not_le.mp c_23
        refine lv_aload_n hx hb dX11_athlete_26 rfl (lv_at hl 0 rfl) ?_
        refine lv_bipush (v := (-2 : Int32)) hx hb dX11_athlete_27 (by decide) ?_
        refine z_Vi C0 hP hD hA hS (As := [.int (-2 : Int32)]) (rest := []) (k := 0) (c_X11_refuse l E _ (-2 : Int32) 2 (by decide) (by decide) (by decide)) (cwV 1 hts (zgV zbw mlRX11_72 imX11_refuse seX11_refuse iniRX11 coX11_refuse) rfl rfl rfl (by decide +kernel) ⟨Nat.le_of_ble_eq_true rfl, Nat.le_of_ble_eq_true rfl⟩) (zk_lt (rfl : zk 0 = 9) (by decide)) (zd_9 E (rfl : zk 0 = 9) _) rfl rfl rfl hl.1 rfl (Nat.le_of_ble_eq_true rfl) dX11_athlete_29 ⟨Nat.zero_le _, Nat.zero_le _⟩ (fun r4 G4 H locs hw4 hP hS => ?_)
        obtain ⟨rfl, rfl⟩ := hw4
        subst hQ_
        exact z_iret C0 hP hS (v := (-2 : Int32)) (by exact zQc_of (k := 2) (by simp [A_athlete, hz_ia, hy_ia, c_18, d_23]) (fun k hk => g1_n (by omega)) (g1_s _ _ _) (z_plk (g1_n (by decide)) hp)) dX11_athlete_32
  · skip
    have hz_ia := zin_f (by omega) hno1
    refine lv_if_ne (tgt := 17) hx hb dX11_athlete_8 (by decide) (fun h_ => absurd (by decide) h_) (fun _ => ?_)
    refine lv_aload_n hx hb dX11_athlete_11 rfl (lv_at hl 0 rfl) ?_
    refine lv_iconst (v := (-1 : Int32)) hx hb dX11_athlete_12 (by decide) ?_
    refine z_Vi C0 hP hD hA hS (As := [.int (-1 : Int32)]) (rest := []) (k := 0) (c_X11_refuse l E _ (-1 : Int32) 1 (by decide) (by decide) (by decide)) (cwV 1 hts (zgV zbw mlRX11_72 imX11_refuse seX11_refuse iniRX11 coX11_refuse) rfl rfl rfl (by decide +kernel) ⟨Nat.le_of_ble_eq_true rfl, Nat.le_of_ble_eq_true rfl⟩) (zk_lt (rfl : zk 0 = 9) (by decide)) (zd_9 E (rfl : zk 0 = 9) _) rfl rfl rfl hl.1 rfl (Nat.le_of_ble_eq_true rfl) dX11_athlete_13 ⟨Nat.zero_le _, Nat.zero_le _⟩ (fun r5 G5 H locs hw5 hP hS => ?_)
    obtain ⟨rfl, rfl⟩ := hw5
    subst hQ_
    exact z_iret C0 hP hS (v := (-1 : Int32)) (by exact zQc_of (k := 1) (by simp [A_athlete, hz_ia]) (fun k hk => g1_n (by omega)) (g1_s _ _ _) (z_plk (g1_n (by decide)) hp)) dX11_athlete_16
theorem flRX11_127 : Cond.fieldLink RX11 127 "WetSuitPedalsShoes$Athlete" "tries" "[I" ∈ zU := zU_m 124 (by decide +kernel) rfl
set_option maxHeartbeats 4000000 in
set_option maxRecDepth 100000 in
theorem c_X11_tries (l : Launch) (E : zE) (G : zG) (r : Nat → Int32) (n na : Nat) (athlete sect : Int32) (hR : zFA G 1 r n na) (hn10 : n ≤ 10) (hna : na ≤ 5) (hp : zPl G) : zMi l yX11_tries wsX11_tries ({ frames := 1, cells := 0, slots := 0, locals := 22 } : Room) E G [.ref (E.1 0), .int athlete, .int sect] (fun r1 G1 => zQc (A_tries r n na athlete sect) G r1 G1) := by
  refine zOf (cc := cX11_tries) (nL := 3) (ret := (some .int)) RX11 (by decide) rfl rfl (Nat.le_of_ble_eq_true rfl) ?_
  intro p_ e_ s_ m_ a_ b_ me_ c_ ls C0 hP hS hl
  have hx := C0.1
  have hb := C0.2.1
  have hts := C0.2.2.2.2.1
  have hD : zD E (zA E s_.heap.size) := C0.2.2.2.2.2.2.2.2
  have hA : ∀ q : Nat, s_.heap.size ≤ q → zA E s_.heap.size q := fun q h => Or.inr h
  refine z_gen (fun Q_ hQ_ => ?_)
  have hl : lv_has ls 3 [(0, .ref (E.1 0)), (1, .int athlete), (2, .int sect)] := hl
  refine lv_aload_n hx hb dX11_tries_0 rfl (lv_at hl 0 rfl) ?_
  refine z_get C0 hP (C := RX11) (T := TX11) (N := 11) (ci := 9) (index := 10) (k := 0) (ref := "WetSuitPedalsShoes") (zk_lt (rfl : zk 0 = 9) (by decide)) (zd_9 E (rfl : zk 0 = 9) _) rfl (zmi inU_11) 0 (by decide) (zm flRX11_10) rfl (v := .ref (E.1 1)) (rfl) dX11_tries_1 ?_
  refine lv_iload_n hx hb dX11_tries_4 rfl (lv_at hl 1 rfl) ?_
  refine z_Vi C0 hP hD hA hS (As := [.int athlete]) (rest := []) (k := 1) (c_X3_has l E _ 1 na athlete z_lit_Fie_1 (hR.2.1) (by omega)) (cwV 1 hts (zgV zbw mlRX11_117 imX3_has seX3_has iniRX3 coX3_has) rfl rfl rfl (by decide +kernel) ⟨Nat.le_of_ble_eq_true rfl, Nat.le_of_ble_eq_true rfl⟩) (zk_lt (rfl : zk 1 = 3) (by decide)) (zd_3 E (rfl : zk 1 = 3) _) rfl rfl rfl hl.1 rfl (Nat.le_of_ble_eq_true rfl) dX11_tries_5 ⟨Nat.zero_le _, Nat.zero_le _⟩ (fun r1 G1 H locs hw1 hP hS => ?_)
  rcases hw1 with ⟨rfl, rfl, ia, hia, rfl⟩ | ⟨rfl, rfl, hno1⟩
  · skip
    have hz_ia := zin_t hia (by omega)
    have hy_ia : zix (nI ia) = ia := zix_n (by omega)
    refine lv_if_eq (tgt := 25) hx hb dX11_tries_8 (by decide) (fun h_ => absurd h_ (by decide)) (fun _ => ?_)
    refine lv_aload_n hx hb dX11_tries_11 rfl (lv_at hl 0 rfl) ?_
    refine z_get C0 hP (C := RX11) (T := TX11) (N := 11) (ci := 9) (index := 10) (k := 0) (ref := "WetSuitPedalsShoes") (zk_lt (rfl : zk 0 = 9) (by decide)) (zd_9 E (rfl : zk 0 = 9) _) rfl (zmi inU_11) 0 (by decide) (zm flRX11_10) rfl (v := .ref (E.1 1)) (rfl) dX11_tries_12 ?_
    refine z_get C0 hP (C := RX3) (T := TX3) (N := 3) (ci := 3) (index := 93) (k := 1) (ref := "WetSuitPedalsShoes$Field") (zk_lt (rfl : zk 1 = 3) (by decide)) (zd_3 E (rfl : zk 1 = 3) _) rfl (zmi inU_3) 0 (by decide) (zm flRX11_93) rfl (v := .ref (E.1 2)) (rfl) dX11_tries_15 ?_
    refine lv_iload_n hx hb dX11_tries_18 rfl (lv_at hl 2 rfl) ?_
    refine z_Vi C0 hP hD hA hS (As := [.int sect]) (rest := []) (k := 2) (c_X1_has l E _ 2 n sect z_lit_Cou_2 (hR.1) (by omega)) (cwV 1 hts (zgV zbw mlRX11_97 imX1_has seX1_has iniRX1 coX1_has) rfl rfl rfl (by decide +kernel) ⟨Nat.le_of_ble_eq_true rfl, Nat.le_of_ble_eq_true rfl⟩) (zk_lt (rfl : zk 2 = 1) (by decide)) (zd_1 E (rfl : zk 2 = 1) _) rfl rfl rfl hl.1 rfl (Nat.le_of_ble_eq_true rfl) dX11_tries_19 ⟨Nat.zero_le _, Nat.zero_le _⟩ (fun r2 G2 H locs hw2 hP hS => ?_)
    rcases hw2 with ⟨rfl, rfl, is, his, rfl⟩ | ⟨rfl, rfl, hno2⟩
    · skip
      have hz_is := zin_t his (by omega)
      have hy_is : zix (nI is) = is := zix_n (by omega)
      refine lv_if_ne (tgt := 31) hx hb dX11_tries_22 (by decide) (fun _ => ?_) (fun h_ => absurd h_ (by decide))
      refine lv_aload_n hx hb dX11_tries_31 rfl (lv_at hl 0 rfl) ?_
      refine z_get C0 hP (C := RX11) (T := TX11) (N := 11) (ci := 9) (index := 10) (k := 0) (ref := "WetSuitPedalsShoes") (zk_lt (rfl : zk 0 = 9) (by decide)) (zd_9 E (rfl : zk 0 = 9) _) rfl (zmi inU_11) 0 (by decide) (zm flRX11_10) rfl (v := .ref (E.1 1)) (rfl) dX11_tries_32 ?_
      refine z_get C0 hP (C := RX3) (T := TX3) (N := 3) (ci := 3) (index := 118) (k := 1) (ref := "WetSuitPedalsShoes$Field") (zk_lt (rfl : zk 1 = 3) (by decide)) (zd_3 E (rfl : zk 1 = 3) _) rfl (zmi inU_3) 1 (by decide) (zm flRX11_118) rfl (v := .ref (E.1 6)) (rfl) dX11_tries_35 ?_
      refine lv_iload_n hx hb dX11_tries_38 rfl (lv_at hl 1 rfl) ?_
      refine z_aald C0 hP (k := 6) (i := ia) (rfl : zk 6 = 12) (by omega) rfl dX11_tries_39 (fun at_3 hat_3 => ?_)
      have kat_3 : zIs at_3 tAth := hat_3 ▸ zIs_ath z_lit_Fie_1 (by omega)
      refine z_get C0 hP (C := RX0) (T := TX0) (N := 2) (ci := 0) (index := 127) (k := at_3) (ref := "WetSuitPedalsShoes$Athlete") (zk_lt (kat_3 (0, 0, 2) (by decide)).1 (by decide)) (zd_0 E (kat_3 (0, 0, 2) (by decide)).1 _) rfl (zmi inU_0) 1 (by decide) (zm flRX11_127) rfl (v := .ref (E.1 (at_3 + 2))) (rfl) dX11_tries_40 ?_
      refine lv_iload_n hx hb dX11_tries_43 rfl (lv_at hl 2 rfl) ?_
      refine z_iald C0 hP (k := (at_3 + 2)) (i := is) (v := (r (52 + 10 * ia + is))) (kat_3 (2, 11, 10) (by decide)).1 (Nat.lt_of_lt_of_eq (show is < 10 by omega) (kat_3 (2, 11, 10) (by decide)).2.symm) rfl dX11_tries_44 (z_tr hR hat_3 (by omega) (by omega)) ?_
      subst hQ_
      exact z_iret C0 hP hS (v := (r (52 + 10 * ia + is))) (by exact zQc_of (k := 0) (by simp [A_tries, hz_ia, hy_ia, hz_is, hy_is]) (fun k hk => rfl) (rfl) (hp)) dX11_tries_45
    · skip
      have hz_is := zin_f (by omega) hno2
      refine lv_if_ne (tgt := 31) hx hb dX11_tries_22 (by decide) (fun h_ => absurd (by decide) h_) (fun _ => ?_)
      refine lv_aload_n hx hb dX11_tries_25 rfl (lv_at hl 0 rfl) ?_
      refine lv_iconst (v := (-1 : Int32)) hx hb dX11_tries_26 (by decide) ?_
      refine z_Vi C0 hP hD hA hS (As := [.int (-1 : Int32)]) (rest := []) (k := 0) (c_X11_refuse l E _ (-1 : Int32) 1 (by decide) (by decide) (by decide)) (cwV 1 hts (zgV zbw mlRX11_72 imX11_refuse seX11_refuse iniRX11 coX11_refuse) rfl rfl rfl (by decide +kernel) ⟨Nat.le_of_ble_eq_true rfl, Nat.le_of_ble_eq_true rfl⟩) (zk_lt (rfl : zk 0 = 9) (by decide)) (zd_9 E (rfl : zk 0 = 9) _) rfl rfl rfl hl.1 rfl (Nat.le_of_ble_eq_true rfl) dX11_tries_27 ⟨Nat.zero_le _, Nat.zero_le _⟩ (fun r4 G4 H locs hw4 hP hS => ?_)
      obtain ⟨rfl, rfl⟩ := hw4
      subst hQ_
      exact z_iret C0 hP hS (v := (-1 : Int32)) (by exact zQc_of (k := 1) (by simp [A_tries, hz_ia, hy_ia, hz_is]) (fun k hk => g1_n (by omega)) (g1_s _ _ _) (z_plk (g1_n (by decide)) hp)) dX11_tries_30
  · skip
    have hz_ia := zin_f (by omega) hno1
    refine lv_if_eq (tgt := 25) hx hb dX11_tries_8 (by decide) (fun _ => ?_) (fun h_ => absurd (by decide) h_)
    refine lv_aload_n hx hb dX11_tries_25 rfl (lv_at hl 0 rfl) ?_
    refine lv_iconst (v := (-1 : Int32)) hx hb dX11_tries_26 (by decide) ?_
    refine z_Vi C0 hP hD hA hS (As := [.int (-1 : Int32)]) (rest := []) (k := 0) (c_X11_refuse l E _ (-1 : Int32) 1 (by decide) (by decide) (by decide)) (cwV 1 hts (zgV zbw mlRX11_72 imX11_refuse seX11_refuse iniRX11 coX11_refuse) rfl rfl rfl (by decide +kernel) ⟨Nat.le_of_ble_eq_true rfl, Nat.le_of_ble_eq_true rfl⟩) (zk_lt (rfl : zk 0 = 9) (by decide)) (zd_9 E (rfl : zk 0 = 9) _) rfl rfl rfl hl.1 rfl (Nat.le_of_ble_eq_true rfl) dX11_tries_27 ⟨Nat.zero_le _, Nat.zero_le _⟩ (fun r5 G5 H locs hw5 hP hS => ?_)
    obtain ⟨rfl, rfl⟩ := hw5
    subst hQ_
    exact z_iret C0 hP hS (v := (-1 : Int32)) (by exact zQc_of (k := 1) (by simp [A_tries, hz_ia]) (fun k hk => g1_n (by omega)) (g1_s _ _ _) (z_plk (g1_n (by decide)) hp)) dX11_tries_30
