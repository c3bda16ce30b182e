/-! laid by wip/whole/vcg.py -/
theorem flRX11_48 : Cond.fieldLink RX11 48 "WetSuitPedalsShoes" "rival" "LWetSuitPedalsShoes$Trial;" ∈ zU := zU_m 279 (by decide +kernel) rfl
theorem mlRX11_175 : Cond.methodLink RX11 175 yX10_firstPast ∈ zU := zU_m 536 (by decide +kernel) rfl
theorem coX10_firstPast : Cond.code yX10_firstPast cX10_firstPast 3 (some .int) ∈ zU := zU_m 539 (by decide +kernel) rfl
theorem imX10_firstPast : Cond.instanceMethod yX10_firstPast ∈ zU := zU_m 537 (by decide +kernel) rfl
theorem seX10_firstPast : Cond.selects RX10 yX10_firstPast yX10_firstPast ∈ zU := zU_m 538 (by decide +kernel) rfl
theorem mlRX11_171 : Cond.methodLink RX11 171 yX10_howOftenPast ∈ zU := zU_m 528 (by decide +kernel) rfl
theorem coX10_howOftenPast : Cond.code yX10_howOftenPast cX10_howOftenPast 4 (some .int) ∈ zU := zU_m 531 (by decide +kernel) rfl
theorem imX10_howOftenPast : Cond.instanceMethod yX10_howOftenPast ∈ zU := zU_m 529 (by decide +kernel) rfl
theorem seX10_howOftenPast : Cond.selects RX10 yX10_howOftenPast yX10_howOftenPast ∈ zU := zU_m 530 (by decide +kernel) rfl
set_option maxHeartbeats 4000000 in
set_option maxRecDepth 100000 in
theorem c_X11_overtakes (l : Launch) (E : zE) (G : zG) (r : Nat → Int32) (n na : Nat) (one other what : Int32) (hR : zFA G 1 r n na) (hn10 : n ≤ 10) (hna : na ≤ 5) (hp : zPl G) (hkd : zKd r n) : zMi l yX11_overtakes wsX11_overtakes ({ frames := 5, cells := 0, slots := 0, locals := 111 } : Room) E G [.ref (E.1 0), .int one, .int other, .int what] (fun r1 G1 => zQc (A_overtakes r n na one other what) G r1 G1) := by
  refine zOf (cc := cX11_overtakes) (nL := 4) (ret := (some .int)) RX11 (by decide) rfl rfl (Nat.le_of_ble_eq_true rfl) ?_
  intro p_ e_ s_ m_ a_ b_ me_ c_ ls C0 hP hS hl
  have hx := C0.1
  have hb := C0.2.1
  have hts := C0.2.2.2.2.1
  have hD : zD E (zA E s_.heap.size) := C0.2.2.2.2.2.2.2.2
  have hA : ∀ q : Nat, s_.heap.size ≤ q → zA E s_.heap.size q := fun q h => Or.inr h
  refine z_gen (fun Q_ hQ_ => ?_)
  have hl : lv_has ls 4 [(0, .ref (E.1 0)), (1, .int one), (2, .int other), (3, .int what)] := hl
  refine lv_aload_n hx hb dX11_overtakes_0 rfl (lv_at hl 0 rfl) ?_
  refine z_get C0 hP (C := RX11) (T := TX11) (N := 11) (ci := 9) (index := 10) (k := 0) (ref := "WetSuitPedalsShoes") (zk_lt (rfl : zk 0 = 9) (by decide)) (zd_9 E (rfl : zk 0 = 9) _) rfl (zmi inU_11) 0 (by decide) (zm flRX11_10) rfl (v := .ref (E.1 1)) (rfl) dX11_overtakes_1 ?_
  refine lv_iload_n hx hb dX11_overtakes_4 rfl (lv_at hl 1 rfl) ?_
  refine z_Vi C0 hP hD hA hS (As := [.int one]) (rest := []) (k := 1) (c_X3_has l E _ 1 na one z_lit_Fie_1 (hR.2.1) (by omega)) (cwV 1 hts (zgV zbw mlRX11_117 imX3_has seX3_has iniRX3 coX3_has) rfl rfl rfl (by decide +kernel) ⟨Nat.le_of_ble_eq_true rfl, Nat.le_of_ble_eq_true rfl⟩) (zk_lt (rfl : zk 1 = 3) (by decide)) (zd_3 E (rfl : zk 1 = 3) _) rfl rfl rfl hl.1 rfl (Nat.le_of_ble_eq_true rfl) dX11_overtakes_5 ⟨Nat.zero_le _, Nat.zero_le _⟩ (fun r1 G1 H locs hw1 hP hS => ?_)
  rcases hw1 with ⟨rfl, rfl, io, hio, rfl⟩ | ⟨rfl, rfl, hno1⟩
  · skip
    have hz_io := zin_t hio (by omega)
    have hy_io : zix (nI io) = io := zix_n (by omega)
    refine lv_if_eq (tgt := 27) hx hb dX11_overtakes_8 (by decide) (fun h_ => absurd h_ (by decide)) (fun _ => ?_)
    refine lv_aload_n hx hb dX11_overtakes_11 rfl (lv_at hl 0 rfl) ?_
    refine z_get C0 hP (C := RX11) (T := TX11) (N := 11) (ci := 9) (index := 10) (k := 0) (ref := "WetSuitPedalsShoes") (zk_lt (rfl : zk 0 = 9) (by decide)) (zd_9 E (rfl : zk 0 = 9) _) rfl (zmi inU_11) 0 (by decide) (zm flRX11_10) rfl (v := .ref (E.1 1)) (rfl) dX11_overtakes_12 ?_
    refine lv_iload_n hx hb dX11_overtakes_15 rfl (lv_at hl 2 rfl) ?_
    refine z_Vi C0 hP hD hA hS (As := [.int other]) (rest := []) (k := 1) (c_X3_has l E _ 1 na other z_lit_Fie_1 (hR.2.1) (by omega)) (cwV 1 hts (zgV zbw mlRX11_117 imX3_has seX3_has iniRX3 coX3_has) rfl rfl rfl (by decide +kernel) ⟨Nat.le_of_ble_eq_true rfl, Nat.le_of_ble_eq_true rfl⟩) (zk_lt (rfl : zk 1 = 3) (by decide)) (zd_3 E (rfl : zk 1 = 3) _) rfl rfl rfl hl.1 rfl (Nat.le_of_ble_eq_true rfl) dX11_overtakes_16 ⟨Nat.zero_le _, Nat.zero_le _⟩ (fun r2 G2 H locs hw2 hP hS => ?_)
    rcases hw2 with ⟨rfl, rfl, ip, hip, rfl⟩ | ⟨rfl, rfl, hno2⟩
    · skip
      have hz_ip := zin_t hip (by omega)
      have hy_ip : zix (nI ip) = ip := zix_n (by omega)
      refine lv_if_eq (tgt := 27) hx hb dX11_overtakes_19 (by decide) (fun h_ => absurd h_ (by decide)) (fun _ => ?_)
      refine lv_iload_n hx hb dX11_overtakes_22 rfl (lv_at hl 1 rfl) ?_
      refine lv_iload_n hx hb dX11_overtakes_23 rfl (lv_at hl 2 rfl) ?_
      refine z_N_ne hx hb (a := io) (b := ip) (tgt := 33) dX11_overtakes_24 rfl rfl (by omega) (by omega) (by decide) (fun c_24 => ?_) (fun c_24 => ?_)
      · skip
        have hne_ : ¬ nI io = nI ip := fun q => c_24 ((nI_eq (by omega) (by omega)).mp q)
        refine lv_iload_n hx hb dX11_overtakes_33 rfl (lv_at hl 3 rfl) ?_
        refine lv_if_lt (tgt := 42) hx hb dX11_overtakes_34 (by decide) (fun c_34 => ?_) (fun c_34 => ?_)
        · skip
          refine lv_aload_n hx hb dX11_overtakes_42 rfl (lv_at hl 0 rfl) ?_
          refine lv_bipush (v := (-2 : Int32)) hx hb dX11_overtakes_43 (by decide) ?_
          refine z_Vi C0 hP hD hA hS (As := [.int (-2 : Int32)]) (rest := []) (k := 0) (c_X11_refuse l E _ (-2 : Int32) 2 (by decide) (by decide) (by decide)) (cwV 1 hts (zgV zbw mlRX11_72 imX11_refuse seX11_refuse iniRX11 coX11_refuse) rfl rfl rfl (by decide +kernel) ⟨Nat.le_of_ble_eq_true rfl, Nat.le_of_ble_eq_true rfl⟩) (zk_lt (rfl : zk 0 = 9) (by decide)) (zd_9 E (rfl : zk 0 = 9) _) rfl rfl rfl hl.1 rfl (Nat.le_of_ble_eq_true rfl) dX11_overtakes_45 ⟨Nat.zero_le _, Nat.zero_le _⟩ (fun r3 G3 H locs hw3 hP hS => ?_)
          obtain ⟨rfl, rfl⟩ := hw3
          subst hQ_
          exact z_iret C0 hP hS (v := (-2 : Int32)) (by exact zQc_of (k := 2) (by simp [A_overtakes, hz_io, hy_io, hz_ip, hy_ip, c_24, hne_, c_34]) (fun k hk => g1_n (by omega)) (g1_s _ _ _) (z_plk (g1_n (by decide)) hp)) dX11_overtakes_48
        · skip
          refine lv_iload_n hx hb dX11_overtakes_37 rfl (lv_at hl 3 rfl) ?_
          refine lv_iconst (v := (1 : Int32)) hx hb dX11_overtakes_38 (by decide) ?_
          refine lv_icmp_le (tgt := 49) hx hb dX11_overtakes_39 (by decide) (fun c_39 => ?_) (fun c_39 => ?_)
          · skip
            have d_39 := Int32.not_lt.mpr c_39
            refine lv_aload_n hx hb dX11_overtakes_49 rfl (lv_at hl 0 rfl) ?_
            refine lv_iload_n hx hb dX11_overtakes_50 rfl (lv_at hl 1 rfl) ?_
            refine z_Vi C0 hP hD hA hS (As := [.int (nI io)]) (rest := []) (k := 0) (c_X11_runPlan l E _ r n na io hR hkd hn10 hna (by omega)) (cwV 1 hts (zgV zbw mlRX11_142 imX11_runPlan seX11_runPlan iniRX11 coX11_runPlan) rfl rfl rfl (by decide +kernel) ⟨Nat.le_of_ble_eq_true rfl, Nat.le_of_ble_eq_true rfl⟩) (zk_lt (rfl : zk 0 = 9) (by decide)) (zd_9 E (rfl : zk 0 = 9) _) rfl rfl rfl hl.1 rfl (Nat.le_of_ble_eq_true rfl) dX11_overtakes_51 ⟨Nat.zero_le _, Nat.zero_le _⟩ (fun r4 G4 H locs hw4 hP hS => ?_)
            obtain ⟨hr4, hF4, hTA4, hdr4, h34⟩ := hw4
            subst hr4
            refine lv_pop hx hb dX11_overtakes_54 rfl ?_
            refine lv_aload_n hx hb dX11_overtakes_55 rfl (lv_at hl 0 rfl) ?_
            refine z_get C0 hP (C := RX11) (T := TX11) (N := 11) (ci := 9) (index := 48) (k := 0) (ref := "WetSuitPedalsShoes") (zk_lt (rfl : zk 0 = 9) (by decide)) (zd_9 E (rfl : zk 0 = 9) _) rfl (zmi inU_11) 7 (by decide) (zm flRX11_48) rfl (v := .ref (E.1 59)) (rfl) dX11_overtakes_56 ?_
            refine lv_aload_n hx hb dX11_overtakes_59 rfl (lv_at hl 0 rfl) ?_
            refine z_get C0 hP (C := RX11) (T := TX11) (N := 11) (ci := 9) (index := 10) (k := 0) (ref := "WetSuitPedalsShoes") (zk_lt (rfl : zk 0 = 9) (by decide)) (zd_9 E (rfl : zk 0 = 9) _) rfl (zmi inU_11) 0 (by decide) (zm flRX11_10) rfl (v := .ref (E.1 1)) (rfl) dX11_overtakes_60 ?_
            refine z_get C0 hP (C := RX3) (T := TX3) (N := 3) (ci := 3) (index := 93) (k := 1) (ref := "WetSuitPedalsShoes$Field") (zk_lt (rfl : zk 1 = 3) (by decide)) (zd_3 E (rfl : zk 1 = 3) _) rfl (zmi inU_3) 0 (by decide) (zm flRX11_93) rfl (v := .ref (E.1 2)) (rfl) dX11_overtakes_63 ?_
            refine lv_aload_n hx hb dX11_overtakes_66 rfl (lv_at hl 0 rfl) ?_
            refine z_get C0 hP (C := RX11) (T := TX11) (N := 11) (ci := 9) (index := 10) (k := 0) (ref := "WetSuitPedalsShoes") (zk_lt (rfl : zk 0 = 9) (by decide)) (zd_9 E (rfl : zk 0 = 9) _) rfl (zmi inU_11) 0 (by decide) (zm flRX11_10) rfl (v := .ref (E.1 1)) (rfl) dX11_overtakes_67 ?_
            refine z_get C0 hP (C := RX3) (T := TX3) (N := 3) (ci := 3) (index := 118) (k := 1) (ref := "WetSuitPedalsShoes$Field") (zk_lt (rfl : zk 1 = 3) (by decide)) (zd_3 E (rfl : zk 1 = 3) _) rfl (zmi inU_3) 1 (by decide) (zm flRX11_118) rfl (v := .ref (E.1 6)) (rfl) dX11_overtakes_70 ?_
            refine lv_iload_n hx hb dX11_overtakes_73 rfl (lv_at hl 2 rfl) ?_
            refine z_aald C0 hP (k := 6) (i := ip) (rfl : zk 6 = 12) (by omega) rfl dX11_overtakes_74 (fun at_5 hat_5 => ?_)
            have kat_5 : zIs at_5 tAth := hat_5 ▸ zIs_ath z_lit_Fie_1 (by omega)
            refine z_Vv C0 hP hD hA hS (As := [.ref (E.1 2), .ref (E.1 at_5)]) (rest := []) (k := 59) (c_X10_load l E _ 59 2 at_5 z_lit_Tri_59 z_lit_Cou_2 kat_5 (by omega) (by omega)) (cwV 2 hts (zgV zbw mlRX11_164 imX10_load seX10_load iniRX10 coX10_load) rfl rfl rfl (by decide +kernel) ⟨Nat.le_of_ble_eq_true rfl, Nat.le_of_ble_eq_true rfl⟩) (zk_lt (rfl : zk 59 = 8) (by decide)) (zd_8 E (rfl : zk 59 = 8) _) rfl rfl rfl hl.1 rfl (Nat.le_of_ble_eq_true rfl) dX11_overtakes_75 ⟨Nat.zero_le _, Nat.zero_le _⟩ (fun G6 H locs hw6 hP hS => ?_)
            obtain ⟨hF6, hmn6, hkf6, hab6, htr6, hdr6⟩ := hw6
            have hTA6 := zTA_load (t := 59) (zFA_fr hR (fun k hk => hF4 k (by omega)) hna) hat_5 hip hmn6 hkf6 hab6 htr6
            refine lv_aload_n hx hb dX11_overtakes_78 rfl (lv_at hl 0 rfl) ?_
            refine z_get C0 hP (C := RX11) (T := TX11) (N := 11) (ci := 9) (index := 48) (k := 0) (ref := "WetSuitPedalsShoes") (zk_lt (rfl : zk 0 = 9) (by decide)) (zd_9 E (rfl : zk 0 = 9) _) rfl (zmi inU_11) 7 (by decide) (zm flRX11_48) rfl (v := .ref (E.1 59)) (rfl) dX11_overtakes_79 ?_
            refine z_Vi C0 hP hD hA hS (As := []) (rest := []) (k := 59) (c_X10_run l E _ 59 n z_lit_Tri_59 (hTA6.1) (by omega)) (cwV 0 hts (zgV zbw mlRX11_168 imX10_run seX10_run iniRX10 coX10_run) rfl rfl rfl (by decide +kernel) ⟨Nat.le_of_ble_eq_true rfl, Nat.le_of_ble_eq_true rfl⟩) (zk_lt (rfl : zk 59 = 8) (by decide)) (zd_8 E (rfl : zk 59 = 8) _) rfl rfl rfl hl.1 rfl (Nat.le_of_ble_eq_true rfl) dX11_overtakes_82 ⟨Nat.zero_le _, Nat.zero_le _⟩ (fun r7 G7 H locs hw7 hP hS => ?_)
            obtain ⟨hr7, hF7, hrow7⟩ := hw7
            have h97 := zTA_ran9 hTA6 hkd hn10 hr7 hrow7 hdr6
            have hr7 := h97.1
            subst hr7
            refine lv_pop hx hb dX11_overtakes_85 rfl ?_
            refine lv_iload_n hx hb dX11_overtakes_86 rfl (lv_at hl 3 rfl) ?_
            refine lv_if_ne (tgt := 104) hx hb dX11_overtakes_87 (by decide) (fun c_87 => ?_) (fun c_87 => ?_)
            · skip
              refine lv_aload_n hx hb dX11_overtakes_104 rfl (lv_at hl 0 rfl) ?_
              refine z_get C0 hP (C := RX11) (T := TX11) (N := 11) (ci := 9) (index := 44) (k := 0) (ref := "WetSuitPedalsShoes") (zk_lt (rfl : zk 0 = 9) (by decide)) (zd_9 E (rfl : zk 0 = 9) _) rfl (zmi inU_11) 6 (by decide) (zm flRX11_44) rfl (v := .ref (E.1 48)) (rfl) dX11_overtakes_105 ?_
              refine lv_aload_n hx hb dX11_overtakes_108 rfl (lv_at hl 0 rfl) ?_
              refine z_get C0 hP (C := RX11) (T := TX11) (N := 11) (ci := 9) (index := 48) (k := 0) (ref := "WetSuitPedalsShoes") (zk_lt (rfl : zk 0 = 9) (by decide)) (zd_9 E (rfl : zk 0 = 9) _) rfl (zmi inU_11) 7 (by decide) (zm flRX11_48) rfl (v := .ref (E.1 59)) (rfl) dX11_overtakes_109 ?_
              refine z_Vi C0 hP hD hA hS (As := [.ref (E.1 59)]) (rest := []) (k := 48) (c_X10_firstPast l E _ 48 n 59 z_lit_Tri_48 ((congrFun ((hF7 _ (by decide)).trans (hF6 _ (by decide))) _).trans (hTA4.1)) (by omega) z_lit_Tri_59) (cwV 1 hts (zgV zbw mlRX11_175 imX10_firstPast seX10_firstPast iniRX10 coX10_firstPast) rfl rfl rfl (by decide +kernel) ⟨Nat.le_of_ble_eq_true rfl, Nat.le_of_ble_eq_true rfl⟩) (zk_lt (rfl : zk 48 = 8) (by decide)) (zd_8 E (rfl : zk 48 = 8) _) rfl rfl rfl hl.1 rfl (Nat.le_of_ble_eq_true rfl) dX11_overtakes_112 ⟨Nat.zero_le _, Nat.zero_le _⟩ (fun r8 G8 H locs hw8 hP hS => ?_)
              obtain ⟨hr8, rfl⟩ := hw8
              have hr8 : s_first9 (s_fst (s_past (q_all r io) (q_all r ip)) n) n = _ := (congrArg (fun z => s_first9 z n) (s_fst_c (fun i hi => s_past_c (n := n) (a := G7 58) (b := G7 69) (c := q_all r io) (d := q_all r ip) (fun j hj => (congrFun ((hF7 _ (by decide)).trans (hF6 _ (by decide))) _).trans ((h34 j (by omega)).2.2)) (fun j hj => (h97.2 j (by omega)).2.2) hi)) : s_first9 (s_fst (s_past (G7 58) (G7 69)) n) n = s_first9 (s_fst (s_past (q_all r io) (q_all r ip)) n) n).symm.trans hr8
              subst hr8
              subst hQ_
              exact z_iret C0 hP hS (v := (s_first9 (s_fst (s_past (q_all r io) (q_all r ip)) n) n)) (by exact zQc_of (k := 0) (by simp [A_overtakes, hz_io, hy_io, hz_ip, hy_ip, c_24, hne_, c_34, d_39, c_87]) (fun k hk => (hF7 k (by omega)).trans ((hF6 k (by omega)).trans (hF4 k (by omega)))) ((hF7 _ (by decide)).trans ((hF6 _ (by decide)).trans (hF4 _ (by decide)))) (z_plk ((hF7 _ (by decide)).trans ((hF6 _ (by decide)).trans (hF4 _ (by decide)))) hp)) dX11_overtakes_115
            · skip
              refine lv_aload_n hx hb dX11_overtakes_90 rfl (lv_at hl 0 rfl) ?_
              refine z_get C0 hP (C := RX11) (T := TX11) (N := 11) (ci := 9) (index := 44) (k := 0) (ref := "WetSuitPedalsShoes") (zk_lt (rfl : zk 0 = 9) (by decide)) (zd_9 E (rfl : zk 0 = 9) _) rfl (zmi inU_11) 6 (by decide) (zm flRX11_44) rfl (v := .ref (E.1 48)) (rfl) dX11_overtakes_91 ?_
              refine lv_aload_n hx hb dX11_overtakes_94 rfl (lv_at hl 0 rfl) ?_
              refine z_get C0 hP (C := RX11) (T := TX11) (N := 11) (ci := 9) (index := 48) (k := 0) (ref := "WetSuitPedalsShoes") (zk_lt (rfl : zk 0 = 9) (by decide)) (zd_9 E (rfl : zk 0 = 9) _) rfl (zmi inU_11) 7 (by decide) (zm flRX11_48) rfl (v := .ref (E.1 59)) (rfl) dX11_overtakes_95 ?_
              refine z_Vi C0 hP hD hA hS (As := [.ref (E.1 59)]) (rest := []) (k := 48) (c_X10_howOftenPast l E _ 48 n 59 z_lit_Tri_48 ((congrFun ((hF7 _ (by decide)).trans (hF6 _ (by decide))) _).trans (hTA4.1)) (by omega) z_lit_Tri_59) (cwV 1 hts (zgV zbw mlRX11_171 imX10_howOftenPast seX10_howOftenPast iniRX10 coX10_howOftenPast) rfl rfl rfl (by decide +kernel) ⟨Nat.le_of_ble_eq_true rfl, Nat.le_of_ble_eq_true rfl⟩) (zk_lt (rfl : zk 48 = 8) (by decide)) (zd_8 E (rfl : zk 48 = 8) _) rfl rfl rfl hl.1 rfl (Nat.le_of_ble_eq_true rfl) dX11_overtakes_98 ⟨Nat.zero_le _, Nat.zero_le _⟩ (fun r9 G9 H locs hw9 hP hS => ?_)
              obtain ⟨hr9, rfl⟩ := hw9
              have hr9 : nI (s_cnt (s_past (q_all r io) (q_all r ip)) n) = _ := (congrArg nI (s_cnt_c (fun i hi => s_past_c (n := n) (a := G7 58) (b := G7 69) (c := q_all r io) (d := q_all r ip) (fun j hj => (congrFun ((hF7 _ (by decide)).trans (hF6 _ (by decide))) _).trans ((h34 j (by omega)).2.2)) (fun j hj => (h97.2 j (by omega)).2.2) hi)) : nI (s_cnt (s_past (G7 58) (G7 69)) n) = nI (s_cnt (s_past (q_all r io) (q_all r ip)) n)).symm.trans hr9
              subst hr9
              refine lv_goto (tgt := 115) hx hb dX11_overtakes_101 (by decide) ?_
              subst hQ_
              exact z_iret C0 hP hS (v := (nI (s_cnt (s_past (q_all r io) (q_all r ip)) n))) (by exact zQc_of (k := 0) (by simp [A_overtakes, hz_io, hy_io, hz_ip, hy_ip, c_24, hne_, c_34, d_39, c_87]) (fun k hk => (hF7 k (by omega)).trans ((hF6 k (by omega)).trans (hF4 k (by omega)))) ((hF7 _ (by decide)).trans ((hF6 _ (by decide)).trans (hF4 _ (by decide)))) (z_plk ((hF7 _ (by decide)).trans ((hF6 _ (by decide)).trans (hF4 _ (by decide)))) hp)) dX11_overtakes_115
          · skip
            have d_39 := Int32.not_le.mp c_39
            refine lv_aload_n hx hb dX11_overtakes_42 rfl (lv_at hl 0 rfl) ?_
            refine lv_bipush (v := (-2 : Int32)) hx hb dX11_overtakes_43 (by decide) ?_
            refine z_Vi C0 hP hD hA hS (As := [.int (-2 : Int32)]) (rest := []) (k := 0) (c_X11_refuse l E _ (-2 : Int32) 2 (by decide) (by decide) (by decide)) (cwV 1 hts (zgV zbw mlRX11_72 imX11_refuse seX11_refuse iniRX11 coX11_refuse) rfl rfl rfl (by decide +kernel) ⟨Nat.le_of_ble_eq_true rfl, Nat.le_of_ble_eq_true rfl⟩) (zk_lt (rfl : zk 0 = 9) (by decide)) (zd_9 E (rfl : zk 0 = 9) _) rfl rfl rfl hl.1 rfl (Nat.le_of_ble_eq_true rfl) dX11_overtakes_45 ⟨Nat.zero_le _, Nat.zero_le _⟩ (fun r10 G10 H locs hw10 hP hS => ?_)
            obtain ⟨rfl, rfl⟩ := hw10
            subst hQ_
            exact z_iret C0 hP hS (v := (-2 : Int32)) (by exact zQc_of (k := 2) (by simp [A_overtakes, hz_io, hy_io, hz_ip, hy_ip, c_24, hne_, c_34, d_39]) (fun k hk => g1_n (by omega)) (g1_s _ _ _) (z_plk (g1_n (by decide)) hp)) dX11_overtakes_48
      · skip
        have hne_ : nI io = nI ip := congrArg nI c_24
        refine lv_aload_n hx hb dX11_overtakes_27 rfl (lv_at hl 0 rfl) ?_
        refine lv_iconst (v := (-1 : Int32)) hx hb dX11_overtakes_28 (by decide) ?_
        refine z_Vi C0 hP hD hA hS (As := [.int (-1 : Int32)]) (rest := []) (k := 0) (c_X11_refuse l E _ (-1 : Int32) 1 (by decide) (by decide) (by decide)) (cwV 1 hts (zgV zbw mlRX11_72 imX11_refuse seX11_refuse iniRX11 coX11_refuse) rfl rfl rfl (by decide +kernel) ⟨Nat.le_of_ble_eq_true rfl, Nat.le_of_ble_eq_true rfl⟩) (zk_lt (rfl : zk 0 = 9) (by decide)) (zd_9 E (rfl : zk 0 = 9) _) rfl rfl rfl hl.1 rfl (Nat.le_of_ble_eq_true rfl) dX11_overtakes_29 ⟨Nat.zero_le _, Nat.zero_le _⟩ (fun r11 G11 H locs hw11 hP hS => ?_)
        obtain ⟨rfl, rfl⟩ := hw11
        subst hQ_
        exact z_iret C0 hP hS (v := (-1 : Int32)) (by exact zQc_of (k := 1) (by simp [A_overtakes, hz_io, hy_io, hz_ip, hy_ip, c_24, hne_]) (fun k hk => g1_n (by omega)) (g1_s _ _ _) (z_plk (g1_n (by decide)) hp)) dX11_overtakes_32
    · skip
      have hz_ip := zin_f (by omega) hno2
      refine lv_if_eq (tgt := 27) hx hb dX11_overtakes_19 (by decide) (fun _ => ?_) (fun h_ => absurd (by decide) h_)
      refine lv_aload_n hx hb dX11_overtakes_27 rfl (lv_at hl 0 rfl) ?_
      refine lv_iconst (v := (-1 : Int32)) hx hb dX11_overtakes_28 (by decide) ?_
      refine z_Vi C0 hP hD hA hS (As := [.int (-1 : Int32)]) (rest := []) (k := 0) (c_X11_refuse l E _ (-1 : Int32) 1 (by decide) (by decide) (by decide)) (cwV 1 hts (zgV zbw mlRX11_72 imX11_refuse seX11_refuse iniRX11 coX11_refuse) rfl rfl rfl (by decide +kernel) ⟨Nat.le_of_ble_eq_true rfl, Nat.le_of_ble_eq_true rfl⟩) (zk_lt (rfl : zk 0 = 9) (by decide)) (zd_9 E (rfl : zk 0 = 9) _) rfl rfl rfl hl.1 rfl (Nat.le_of_ble_eq_true rfl) dX11_overtakes_29 ⟨Nat.zero_le _, Nat.zero_le _⟩ (fun r12 G12 H locs hw12 hP hS => ?_)
      obtain ⟨rfl, rfl⟩ := hw12
      subst hQ_
      exact z_iret C0 hP hS (v := (-1 : Int32)) (by exact zQc_of (k := 1) (by simp [A_overtakes, hz_io, hy_io, hz_ip]) (fun k hk => g1_n (by omega)) (g1_s _ _ _) (z_plk (g1_n (by decide)) hp)) dX11_overtakes_32
  · skip
    have hz_io := zin_f (by omega) hno1
    refine lv_if_eq (tgt := 27) hx hb dX11_overtakes_8 (by decide) (fun _ => ?_) (fun h_ => absurd (by decide) h_)
    refine lv_aload_n hx hb dX11_overtakes_27 rfl (lv_at hl 0 rfl) ?_
    refine lv_iconst (v := (-1 : Int32)) hx hb dX11_overtakes_28 (by decide) ?_
    refine z_Vi C0 hP hD hA hS (As := [.int (-1 : Int32)]) (rest := []) (k := 0) (c_X11_refuse l E _ (-1 : Int32) 1 (by decide) (by decide) (by decide)) (cwV 1 hts (zgV zbw mlRX11_72 imX11_refuse seX11_refuse iniRX11 coX11_refuse) rfl rfl rfl (by decide +kernel) ⟨Nat.le_of_ble_eq_true rfl, Nat.le_of_ble_eq_true rfl⟩) (zk_lt (rfl : zk 0 = 9) (by decide)) (zd_9 E (rfl : zk 0 = 9) _) rfl rfl rfl hl.1 rfl (Nat.le_of_ble_eq_true rfl) dX11_overtakes_29 ⟨Nat.zero_le _, Nat.zero_le _⟩ (fun r13 G13 H locs hw13 hP hS => ?_)
    obtain ⟨rfl, rfl⟩ := hw13
    subst hQ_
    exact z_iret C0 hP hS (v := (-1 : Int32)) (by exact zQc_of (k := 1) (by simp [A_overtakes, hz_io]) (fun k hk => g1_n (by omega)) (g1_s _ _ _) (z_plk (g1_n (by decide)) hp)) dX11_overtakes_32
theorem flRX11_197 : Cond.fieldLink RX11 197 "WetSuitPedalsShoes$Trial" "drinkBehind" "I" ∈ zU := zU_m 189 (by decide +kernel) rfl
set_option maxHeartbeats 4000000 in
set_option maxRecDepth 100000 in
theorem c_X11_drink (l : Launch) (E : zE) (G : zG) (r : Nat → Int32) (n na : Nat) (athlete what : Int32) (hR : zFA G 1 r n na) (hn10 : n ≤ 10) (hna : na ≤ 5) (hp : zPl G) (hkd : zKd r n) : zMi l yX11_drink wsX11_drink ({ frames := 5, cells := 0, slots := 0, locals := 111 } : Room) E G [.ref (E.1 0), .int athlete, .int what] (fun r1 G1 => zQc (A_drink r n na athlete what) G r1 G1) := by
  refine zOf (cc := cX11_drink) (nL := 7) (ret := (some .int)) RX11 (by decide) rfl rfl (Nat.le_of_ble_eq_true rfl) ?_
  intro p_ e_ s_ m_ a_ b_ me_ c_ ls C0 hP hS hl
  have hx := C0.1
  have hb := C0.2.1
  have hts := C0.2.2.2.2.1
  have hD : zD E (zA E s_.heap.size) := C0.2.2.2.2.2.2.2.2
  have hA : ∀ q : Nat, s_.heap.size ≤ q → zA E s_.heap.size q := fun q h => Or.inr h
  refine z_gen (fun Q_ hQ_ => ?_)
  have hl : lv_has ls 7 [(0, .ref (E.1 0)), (1, .int athlete), (2, .int what)] := hl
  refine lv_aload_n hx hb dX11_drink_0 rfl (lv_at hl 0 rfl) ?_
  refine z_get C0 hP (C := RX11) (T := TX11) (N := 11) (ci := 9) (index := 10) (k := 0) (ref := "WetSuitPedalsShoes") (zk_lt (rfl : zk 0 = 9) (by decide)) (zd_9 E (rfl : zk 0 = 9) _) rfl (zmi inU_11) 0 (by decide) (zm flRX11_10) rfl (v := .ref (E.1 1)) (rfl) dX11_drink_1 ?_
  refine lv_iload_n hx hb dX11_drink_4 rfl (lv_at hl 1 rfl) ?_
  refine z_Vi C0 hP hD hA hS (As := [.int athlete]) (rest := []) (k := 1) (c_X3_has l E _ 1 na athlete z_lit_Fie_1 (hR.2.1) (by omega)) (cwV 1 hts (zgV zbw mlRX11_117 imX3_has seX3_has iniRX3 coX3_has) rfl rfl rfl (by decide +kernel) ⟨Nat.le_of_ble_eq_true rfl, Nat.le_of_ble_eq_true rfl⟩) (zk_lt (rfl : zk 1 = 3) (by decide)) (zd_3 E (rfl : zk 1 = 3) _) rfl rfl rfl hl.1 rfl (Nat.le_of_ble_eq_true rfl) dX11_drink_5 ⟨Nat.zero_le _, Nat.zero_le _⟩ (fun r1 G1 H locs hw1 hP hS => ?_)
  rcases hw1 with ⟨rfl, rfl, ia, hia, rfl⟩ | ⟨rfl, rfl, hno1⟩
  · skip
    have hz_ia := zin_t hia (by omega)
    have hy_ia : zix (nI ia) = ia := zix_n (by omega)
    refine lv_if_ne (tgt := 17) hx hb dX11_drink_8 (by decide) (fun _ => ?_) (fun h_ => absurd h_ (by decide))
    refine lv_iload_n hx hb dX11_drink_17 rfl (lv_at hl 2 rfl) ?_
    refine lv_if_lt (tgt := 26) hx hb dX11_drink_18 (by decide) (fun c_18 => ?_) (fun c_18 => ?_)
    · skip
      refine lv_aload_n hx hb dX11_drink_26 rfl (lv_at hl 0 rfl) ?_
      refine lv_bipush (v := (-2 : Int32)) hx hb dX11_drink_27 (by decide) ?_
      refine z_Vi C0 hP hD hA hS (As := [.int (-2 : Int32)]) (rest := []) (k := 0) (c_X11_refuse l E _ (-2 : Int32) 2 (by decide) (by decide) (by decide)) (cwV 1 hts (zgV zbw mlRX11_72 imX11_refuse seX11_refuse iniRX11 coX11_refuse) rfl rfl rfl (by decide +kernel) ⟨Nat.le_of_ble_eq_true rfl, Nat.le_of_ble_eq_true rfl⟩) (zk_lt (rfl : zk 0 = 9) (by decide)) (zd_9 E (rfl : zk 0 = 9) _) rfl rfl rfl hl.1 rfl (Nat.le_of_ble_eq_true rfl) dX11_drink_29 ⟨Nat.zero_le _, Nat.zero_le _⟩ (fun r2 G2 H locs hw2 hP hS => ?_)
      obtain ⟨rfl, rfl⟩ := hw2
      subst hQ_
      exact z_iret C0 hP hS (v := (-2 : Int32)) (by exact zQc_of (k := 2) (by simp [A_drink, hz_ia, hy_ia, c_18]) (fun k hk => g1_n (by omega)) (g1_s _ _ _) (z_plk (g1_n (by decide)) hp)) dX11_drink_32
    · skip
      refine lv_iload_n hx hb dX11_drink_21 rfl (lv_at hl 2 rfl) ?_
      refine lv_iconst (v := (1 : Int32)) hx hb dX11_drink_22 (by decide) ?_
      refine lv_icmp_le (tgt := 33) hx hb dX11_drink_23 (by decide) (fun c_23 => ?_) (fun c_23 => ?_)
      · skip
        have d_23 := Int32.not_lt.mpr c_23
        refine lv_aload_n hx hb dX11_drink_33 rfl (lv_at hl 0 rfl) ?_
        refine lv_iload_n hx hb dX11_drink_34 rfl (lv_at hl 1 rfl) ?_
        refine z_Vi C0 hP hD hA hS (As := [.int (nI ia)]) (rest := []) (k := 0) (c_X11_runPlan l E _ r n na ia hR hkd hn10 hna (by omega)) (cwV 1 hts (zgV zbw mlRX11_142 imX11_runPlan seX11_runPlan iniRX11 coX11_runPlan) rfl rfl rfl (by decide +kernel) ⟨Nat.le_of_ble_eq_true rfl, Nat.le_of_ble_eq_true rfl⟩) (zk_lt (rfl : zk 0 = 9) (by decide)) (zd_9 E (rfl : zk 0 = 9) _) rfl rfl rfl hl.1 rfl (Nat.le_of_ble_eq_true rfl) dX11_drink_35 ⟨Nat.zero_le _, Nat.zero_le _⟩ (fun r3 G3 H locs hw3 hP hS => ?_)
        obtain ⟨hr3, hF3, hTA3, hdr3, h33⟩ := hw3
        subst hr3
        refine lv_istore_n (lv' := [(3, .int (q_fin r n ia)), (0, .ref (E.1 0)), (1, .int (nI ia)), (2, .int what)]) hx hb dX11_drink_38 rfl hl (by decide) rfl (fun ls hl => ?_)
        refine lv_bipush (v := (-9 : Int32)) hx hb dX11_drink_39 (by decide) ?_
        refine lv_istore (lv' := [(4, .int (-9 : Int32)), (3, .int (q_fin r n ia)), (0, .ref (E.1 0)), (1, .int (nI ia)), (2, .int what)]) hx hb dX11_drink_41 hl (by decide) rfl (fun ls hl => ?_)
        refine lv_iconst (v := (0 : Int32)) hx hb dX11_drink_43 (by decide) ?_
        refine lv_istore (lv' := [(5, .int (0 : Int32)), (4, .int (-9 : Int32)), (3, .int (q_fin r n ia)), (0, .ref (E.1 0)), (1, .int (nI ia)), (2, .int what)]) hx hb dX11_drink_44 hl (by decide) rfl (fun ls hl => ?_)
        have cut_46 : ∀ (fuel : Nat), ∀ (i : Nat) (ls_ mo : Int32) (Gc : zG) (H : Heap) (locs : List Loc) (ls : Array Slot), (i ≤ n) → (ls_ = (s_best (fun i => (m_run r ia (nI i) n).2) (q_fin r n ia) i).1) → (mo = s_or9 (s_best (fun i => (m_run r ia (nI i) n).2) (q_fin r n ia) i).2) → (zTA Gc 48 r ia n) → (∀ k, (k < 48 ∨ 58 < k) → Gc k = G k) → zP E Gc H → va_S (zA E s_.heap.size) s_.heap H locs → lv_has ls 7 [(0, .ref (E.1 0)), (1, .int (nI ia)), (2, .int what), (3, .int ls_), (4, .int mo), (5, .int (nI i))] → n - i < fuel → W p_ l e_ ({ frames := 5, cells := 0, slots := 0, locals := 111 } : Room) s_ m_ a_ b_ me_ c_ H locs 0 0 Q_ (F0 m_ 46 ls []) := by
          intro fuel
          induction fuel with
          | zero =>
            intro i  ls_ mo  Gc  H locs ls hin hls hmo hTAc hFc hP hS hl hfu
            exact absurd hfu (Nat.not_lt_zero _)
          | succ fuel ih_46 =>
            intro i  ls_ mo  Gc  H locs ls hin hls hmo hTAc hFc hP hS hl hfu_46
            refine lv_iload hx hb dX11_drink_46 (lv_at hl 5 rfl) ?_
            refine lv_aload_n hx hb dX11_drink_48 rfl (lv_at hl 0 rfl) ?_
            refine z_get C0 hP (C := RX11) (T := TX11) (N := 11) (ci := 9) (index := 10) (k := 0) (ref := "WetSuitPedalsShoes") (zk_lt (rfl : zk 0 = 9) (by decide)) (zd_9 E (rfl : zk 0 = 9) _) rfl (zmi inU_11) 0 (by decide) (zm flRX11_10) rfl (v := .ref (E.1 1)) (rfl) dX11_drink_49 ?_
            refine z_get C0 hP (C := RX3) (T := TX3) (N := 3) (ci := 3) (index := 93) (k := 1) (ref := "WetSuitPedalsShoes$Field") (zk_lt (rfl : zk 1 = 3) (by decide)) (zd_3 E (rfl : zk 1 = 3) _) rfl (zmi inU_3) 0 (by decide) (zm flRX11_93) rfl (v := .ref (E.1 2)) (rfl) dX11_drink_52 ?_
            refine z_get C0 hP (C := RX1) (T := TX1) (N := 4) (ci := 1) (index := 138) (k := 2) (ref := "WetSuitPedalsShoes$Course") (zk_lt (rfl : zk 2 = 1) (by decide)) (zd_1 E (rfl : zk 2 = 1) _) rfl (zmi inU_1) 0 (by decide) (zm flRX11_138) rfl (v := .int (nI n)) (congrArg (fun z => some (Value.int z)) ((congrFun (hFc _ (by decide)) _).trans (hR.1))) dX11_drink_55 ?_
            refine z_N_ge hx hb (a := i) (b := n) (tgt := 98) dX11_drink_58 rfl rfl (by omega) (by omega) (by decide) (fun c_58 => ?_) (fun c_58 => ?_)
            · skip
              have e8 : i = n := by omega
              rw [e8] at hls hmo
              have hb9 := s_best_lt (f := fun i_ => (m_run r ia (nI i_) n).2) (x0 := q_fin r n ia) (i := n)
              have hq1 : (q_drink r n ia).1 = ls_ := hls.symm
              have hq2 : s_or9 (q_drink r n ia).2 = mo := hmo.symm
              have hb8 : (q_drink r n ia).2 = 99 ∨ (q_drink r n ia).2 < n := hb9
              refine lv_iload_n hx hb dX11_drink_98 rfl (lv_at hl 2 rfl) ?_
              refine lv_if_eq (tgt := 109) hx hb dX11_drink_99 (by decide) (fun c_99 => ?_) (fun c_99 => ?_)
              · skip
                refine lv_iload hx hb dX11_drink_109 (lv_at hl 4 rfl) ?_
                refine lv_goto (tgt := 115) hx hb dX11_drink_111 (by decide) ?_
                subst hQ_
                exact z_iret C0 hP hS (v := mo) (by exact zQc_of (k := 0) (by simp [A_drink, hz_ia, hy_ia, c_18, d_23, c_58, hq1, hq2, c_99]) (fun k hk => hFc k (by omega)) (hFc _ (by decide)) (z_plk (hFc _ (by decide)) hp)) dX11_drink_115
              · skip
                refine lv_iload hx hb dX11_drink_102 (lv_at hl 4 rfl) ?_
                refine lv_bipush (v := (-9 : Int32)) hx hb dX11_drink_104 (by decide) ?_
                refine lv_icmp_ne (tgt := 114) hx hb dX11_drink_106 (by decide) (fun c_106 => ?_) (fun c_106 => ?_)
                · skip
                  have hk9 := (show ¬ (q_drink r n ia).2 = 99 from fun q => c_106 (by rw [← hq2, q]; rfl))
                  refine lv_iload_n hx hb dX11_drink_114 rfl (lv_at hl 3 rfl) ?_
                  subst hQ_
                  exact z_iret C0 hP hS (v := ls_) (by exact zQc_of (k := 0) (by simp [A_drink, hz_ia, hy_ia, c_18, d_23, c_58, hq1, hq2, c_99, c_106, hk9]) (fun k hk => hFc k (by omega)) (hFc _ (by decide)) (z_plk (hFc _ (by decide)) hp)) dX11_drink_115
                · skip
                  have hk9 := (show (q_drink r n ia).2 = 99 from s_or9_n (hq2.trans c_106) (by omega))
                  have hk8 := (show s_or9 99 = -9 from rfl)
                  refine lv_iload hx hb dX11_drink_109 (lv_at hl 4 rfl) ?_
                  refine lv_goto (tgt := 115) hx hb dX11_drink_111 (by decide) ?_
                  subst hQ_
                  exact z_iret C0 hP hS (v := mo) (by exact zQc_of (k := 0) (by simp [A_drink, hz_ia, hy_ia, c_18, d_23, c_58, hq1, hq2, c_99, c_106, hk9, hk8]) (fun k hk => hFc k (by omega)) (hFc _ (by decide)) (z_plk (hFc _ (by decide)) hp)) dX11_drink_115
            · skip
              refine lv_aload_n hx hb dX11_drink_61 rfl (lv_at hl 0 rfl) ?_
              refine z_get C0 hP (C := RX11) (T := TX11) (N := 11) (ci := 9) (index := 44) (k := 0) (ref := "WetSuitPedalsShoes") (zk_lt (rfl : zk 0 = 9) (by decide)) (zd_9 E (rfl : zk 0 = 9) _) rfl (zmi inU_11) 6 (by decide) (zm flRX11_44) rfl (v := .ref (E.1 48)) (rfl) dX11_drink_62 ?_
              refine lv_iload hx hb dX11_drink_65 (lv_at hl 5 rfl) ?_
              refine z_put C0 hP hD hS (C := RX10) (T := TX10) (N := 6) (ci := 8) (index := 197) (k := 48) (ref := "WetSuitPedalsShoes$Trial") (F := Gc 48) (ty := .int) (rfl) tyX10 tyX10_ok nmX10 (zk_lt (rfl : zk 48 = 8) (by decide)) (zd_8 E (rfl : zk 48 = 8) _) rfl (zmi inU_10) 2 (by decide) (zm flRX11_197) rfl rfl (by decide +kernel) (by rfl) rfl (by show 2 < 6; decide) (upd (Gc 48) 2 (nI i)) ((zd_8 E (rfl : zk 48 = 8) _).trans (rfl)) dX11_drink_67 (fun H locs hP hS => ?_)
              refine lv_aload_n hx hb dX11_drink_70 rfl (lv_at hl 0 rfl) ?_
              refine z_get C0 hP (C := RX11) (T := TX11) (N := 11) (ci := 9) (index := 44) (k := 0) (ref := "WetSuitPedalsShoes") (zk_lt (rfl : zk 0 = 9) (by decide)) (zd_9 E (rfl : zk 0 = 9) _) rfl (zmi inU_11) 6 (by decide) (zm flRX11_44) rfl (v := .ref (E.1 48)) (rfl) dX11_drink_71 ?_
              refine z_Vi C0 hP hD hA hS (As := []) (rest := []) (k := 48) (c_X10_run l E _ 48 n z_lit_Tri_48 ((congrFun (g1_n (by decide)) _).trans (hTAc.1)) (by omega)) (cwV 0 hts (zgV zbw mlRX11_168 imX10_run seX10_run iniRX10 coX10_run) rfl rfl rfl (by decide +kernel) ⟨Nat.le_of_ble_eq_true rfl, Nat.le_of_ble_eq_true rfl⟩) (zk_lt (rfl : zk 48 = 8) (by decide)) (zd_8 E (rfl : zk 48 = 8) _) rfl rfl rfl hl.1 rfl (Nat.le_of_ble_eq_true rfl) dX11_drink_74 ⟨Nat.zero_le _, Nat.zero_le _⟩ (fun r4 G4 H locs hw4 hP hS => ?_)
              obtain ⟨hr4, hF4, hrow4⟩ := hw4
              have h94 := zTA_ran (d := nI i) (zTA_d hTAc) hkd hn10 hr4 hrow4 ((congrFun (g1_s _ _ _) _).trans (pk_us))
              have hr4 := h94.1
              subst hr4
              have hTAn := zTA_fr (zTA_d hTAc) hF4
              refine lv_istore (lv' := [(6, .int ((m_run r ia (nI i) n).2)), (0, .ref (E.1 0)), (1, .int (nI ia)), (2, .int what), (3, .int ls_), (4, .int mo), (5, .int (nI i))]) hx hb dX11_drink_77 hl (by decide) rfl (fun ls hl => ?_)
              refine lv_iload hx hb dX11_drink_79 (lv_at hl 0 rfl) ?_
              refine lv_iload_n hx hb dX11_drink_81 rfl (lv_at hl 4 rfl) ?_
              refine lv_icmp_ge (tgt := 92) hx hb dX11_drink_82 (by decide) (fun c_82 => ?_) (fun c_82 => ?_)
              · skip
                have d_82 := Int32.not_lt.mpr c_82
                refine lv_iinc (v := (nI (i + 1))) (lv' := [(5, .int (nI (i + 1))), (6, .int ((m_run r ia (nI i) n).2)), (0, .ref (E.1 0)), (1, .int (nI ia)), (2, .int what), (3, .int ls_), (4, .int mo)]) hx hb dX11_drink_92 hl (k := 6) rfl (z_inc (by decide)) (by decide) rfl (fun ls hl => ?_)
                refine lv_goto (tgt := 46) hx hb dX11_drink_95 (by decide) ?_
                exact ih_46 (i + 1) ls_ mo G4 _ _ _ (by first | assumption | omega) (by rw [show s_best (fun i => (m_run r ia (nI i) n).2) (q_fin r n ia) (i + 1) = s_best (fun i => (m_run r ia (nI i) n).2) (q_fin r n ia) i from s_best_n (fun q => d_82 (by rw [hls]; exact q))]; exact hls) (by rw [show s_best (fun i => (m_run r ia (nI i) n).2) (q_fin r n ia) (i + 1) = s_best (fun i => (m_run r ia (nI i) n).2) (q_fin r n ia) i from s_best_n (fun q => d_82 (by rw [hls]; exact q))]; exact hmo) (by exact hTAn) (by exact fun k hk => (hF4 k (by omega)).trans ((g1_n (by omega)).trans (hFc k (by omega)))) hP hS (lv_sub hl [2, 3, 4, 5, 6, 0] rfl) (by omega)
              · skip
                have d_82 := Int32.not_le.mp c_82
                refine lv_iload hx hb dX11_drink_85 (lv_at hl 0 rfl) ?_
                refine lv_istore_n (lv' := [(3, .int ((m_run r ia (nI i) n).2)), (6, .int ((m_run r ia (nI i) n).2)), (0, .ref (E.1 0)), (1, .int (nI ia)), (2, .int what), (4, .int mo), (5, .int (nI i))]) hx hb dX11_drink_87 rfl hl (by decide) rfl (fun ls hl => ?_)
                refine lv_iload hx hb dX11_drink_88 (lv_at hl 6 rfl) ?_
                refine lv_istore (lv' := [(4, .int (nI i)), (3, .int ((m_run r ia (nI i) n).2)), (6, .int ((m_run r ia (nI i) n).2)), (0, .ref (E.1 0)), (1, .int (nI ia)), (2, .int what), (5, .int (nI i))]) hx hb dX11_drink_90 hl (by decide) rfl (fun ls hl => ?_)
                refine lv_iinc (v := (nI (i + 1))) (lv' := [(5, .int (nI (i + 1))), (4, .int (nI i)), (3, .int ((m_run r ia (nI i) n).2)), (6, .int ((m_run r ia (nI i) n).2)), (0, .ref (E.1 0)), (1, .int (nI ia)), (2, .int what)]) hx hb dX11_drink_92 hl (k := 6) rfl (z_inc (by decide)) (by decide) rfl (fun ls hl => ?_)
                refine lv_goto (tgt := 46) hx hb dX11_drink_95 (by decide) ?_
                exact ih_46 (i + 1) ((m_run r ia (nI i) n).2) (nI i) G4 _ _ _ (by first | assumption | omega) (by rw [show s_best (fun i => (m_run r ia (nI i) n).2) (q_fin r n ia) (i + 1) = ((m_run r ia (nI i) n).2, i) from s_best_y (by rw [← hls]; exact d_82)]) (by rw [show s_best (fun i => (m_run r ia (nI i) n).2) (q_fin r n ia) (i + 1) = ((m_run r ia (nI i) n).2, i) from s_best_y (by rw [← hls]; exact d_82)]; unfold s_or9; rw [if_neg (by omega)]) (by exact hTAn) (by exact fun k hk => (hF4 k (by omega)).trans ((g1_n (by omega)).trans (hFc k (by omega)))) hP hS (lv_sub hl [4, 5, 6, 2, 1, 0] rfl) (by omega)
        exact cut_46 (_ + 1) 0 (q_fin r n ia) (-9 : Int32) G3 _ _ _ (by first | assumption | omega) (by rfl) (by rfl) (by exact hTA3) (by exact fun k hk => hF3 k (by omega)) hP hS (lv_sub hl [3, 4, 5, 2, 1, 0] rfl) (Nat.lt_succ_self _)
      · skip
        have d_23 := Int32.not_le.mp c_23
        refine lv_aload_n hx hb dX11_drink_26 rfl (lv_at hl 0 rfl) ?_
        refine lv_bipush (v := (-2 : Int32)) hx hb dX11_drink_27 (by decide) ?_
        refine z_Vi C0 hP hD hA hS (As := [.int (-2 : Int32)]) (rest := []) (k := 0) (c_X11_refuse l E _ (-2 : Int32) 2 (by decide) (by decide) (by decide)) (cwV 1 hts (zgV zbw mlRX11_72 imX11_refuse seX11_refuse iniRX11 coX11_refuse) rfl rfl rfl (by decide +kernel) ⟨Nat.le_of_ble_eq_true rfl, Nat.le_of_ble_eq_true rfl⟩) (zk_lt (rfl : zk 0 = 9) (by decide)) (zd_9 E (rfl : zk 0 = 9) _) rfl rfl rfl hl.1 rfl (Nat.le_of_ble_eq_true rfl) dX11_drink_29 ⟨Nat.zero_le _, Nat.zero_le _⟩ (fun r5 G5 H locs hw5 hP hS => ?_)
        obtain ⟨rfl, rfl⟩ := hw5
        subst hQ_
        exact z_iret C0 hP hS (v := (-2 : Int32)) (by exact zQc_of (k := 2) (by simp [A_drink, hz_ia, hy_ia, c_18, d_23]) (fun k hk => g1_n (by omega)) (g1_s _ _ _) (z_plk (g1_n (by decide)) hp)) dX11_drink_32
  · skip
    have hz_ia := zin_f (by omega) hno1
    refine lv_if_ne (tgt := 17) hx hb dX11_drink_8 (by decide) (fun h_ => absurd (by decide) h_) (fun _ => ?_)
    refine lv_aload_n hx hb dX11_drink_11 rfl (lv_at hl 0 rfl) ?_
    refine lv_iconst (v := (-1 : Int32)) hx hb dX11_drink_12 (by decide) ?_
    refine z_Vi C0 hP hD hA hS (As := [.int (-1 : Int32)]) (rest := []) (k := 0) (c_X11_refuse l E _ (-1 : Int32) 1 (by decide) (by decide) (by decide)) (cwV 1 hts (zgV zbw mlRX11_72 imX11_refuse seX11_refuse iniRX11 coX11_refuse) rfl rfl rfl (by decide +kernel) ⟨Nat.le_of_ble_eq_true rfl, Nat.le_of_ble_eq_true rfl⟩) (zk_lt (rfl : zk 0 = 9) (by decide)) (zd_9 E (rfl : zk 0 = 9) _) rfl rfl rfl hl.1 rfl (Nat.le_of_ble_eq_true rfl) dX11_drink_13 ⟨Nat.zero_le _, Nat.zero_le _⟩ (fun r6 G6 H locs hw6 hP hS => ?_)
    obtain ⟨rfl, rfl⟩ := hw6
    subst hQ_
    exact z_iret C0 hP hS (v := (-1 : Int32)) (by exact zQc_of (k := 1) (by simp [A_drink, hz_ia]) (fun k hk => g1_n (by omega)) (g1_s _ _ _) (z_plk (g1_n (by decide)) hp)) dX11_drink_16
theorem kkRX11_200 : Cond.constant RX11 200 (1000000000) ∈ zU := zU_m 615 (by decide +kernel) rfl
set_option maxHeartbeats 4000000 in
set_option maxRecDepth 100000 in
theorem c_X11_train (l : Launch) (E : zE) (G : zG) (r : Nat → Int32) (n na : Nat) (athlete what : Int32) (hR : zFA G 1 r n na) (hn10 : n ≤ 10) (hna : na ≤ 5) (hp : zPl G) (hkd : zKd r n) : zMi l yX11_train wsX11_train ({ frames := 5, cells := 0, slots := 0, locals := 113 } : Room) E G [.ref (E.1 0), .int athlete, .int what] (fun r1 G1 => zQc (A_train r n na athlete what) G r1 G1) := by
  refine zOf (cc := cX11_train) (nL := 8) (ret := (some .int)) RX11 (by decide) rfl rfl (Nat.le_of_ble_eq_true rfl) ?_
  intro p_ e_ s_ m_ a_ b_ me_ c_ ls C0 hP hS hl
  have hx := C0.1
  have hb := C0.2.1
  have hts := C0.2.2.2.2.1
  have hD : zD E (zA E s_.heap.size) := C0.2.2.2.2.2.2.2.2
  have hA : ∀ q : Nat, s_.heap.size ≤ q → zA E s_.heap.size q := fun q h => Or.inr h
  refine z_gen (fun Q_ hQ_ => ?_)
  have hl : lv_has ls 8 [(0, .ref (E.1 0)), (1, .int athlete), (2, .int what)] := hl
  refine lv_aload_n hx hb dX11_train_0 rfl (lv_at hl 0 rfl) ?_
  refine z_get C0 hP (C := RX11) (T := TX11) (N := 11) (ci := 9) (index := 10) (k := 0) (ref := "WetSuitPedalsShoes") (zk_lt (rfl : zk 0 = 9) (by decide)) (zd_9 E (rfl : zk 0 = 9) _) rfl (zmi inU_11) 0 (by decide) (zm flRX11_10) rfl (v := .ref (E.1 1)) (rfl) dX11_train_1 ?_
  refine lv_iload_n hx hb dX11_train_4 rfl (lv_at hl 1 rfl) ?_
  refine z_Vi C0 hP hD hA hS (As := [.int athlete]) (rest := []) (k := 1) (c_X3_has l E _ 1 na athlete z_lit_Fie_1 (hR.2.1) (by omega)) (cwV 1 hts (zgV zbw mlRX11_117 imX3_has seX3_has iniRX3 coX3_has) rfl rfl rfl (by decide +kernel) ⟨Nat.le_of_ble_eq_true rfl, Nat.le_of_ble_eq_true rfl⟩) (zk_lt (rfl : zk 1 = 3) (by decide)) (zd_3 E (rfl : zk 1 = 3) _) rfl rfl rfl hl.1 rfl (Nat.le_of_ble_eq_true rfl) dX11_train_5 ⟨Nat.zero_le _, Nat.zero_le _⟩ (fun r1 G1 H locs hw1 hP hS => ?_)
  rcases hw1 with ⟨rfl, rfl, ia, hia, rfl⟩ | ⟨rfl, rfl, hno1⟩
  · skip
    have hz_ia := zin_t hia (by omega)
    have hy_ia : zix (nI ia) = ia := zix_n (by omega)
    refine lv_if_ne (tgt := 20) hx hb dX11_train_8 (by decide) (fun _ => ?_) (fun h_ => absurd h_ (by decide))
    refine lv_iload_n hx hb dX11_train_20 rfl (lv_at hl 2 rfl) ?_
    refine lv_if_lt (tgt := 29) hx hb dX11_train_21 (by decide) (fun c_21 => ?_) (fun c_21 => ?_)
    · skip
      refine lv_ldc (v := (1000000000 : Int32)) hx hb C0.2.2.2.1 (hts _ (zm kkRX11_200)) dX11_train_29 ?_
      refine lv_aload_n hx hb dX11_train_31 rfl (lv_at hl 0 rfl) ?_
      refine lv_bipush (v := (-2 : Int32)) hx hb dX11_train_32 (by decide) ?_
      refine z_Vi C0 hP hD hA hS (As := [.int (-2 : Int32)]) (rest := [.int (1000000000 : Int32)]) (k := 0) (c_X11_refuse l E _ (-2 : Int32) 2 (by decide) (by decide) (by decide)) (cwV 1 hts (zgV zbw mlRX11_72 imX11_refuse seX11_refuse iniRX11 coX11_refuse) rfl rfl rfl (by decide +kernel) ⟨Nat.le_of_ble_eq_true rfl, Nat.le_of_ble_eq_true rfl⟩) (zk_lt (rfl : zk 0 = 9) (by decide)) (zd_9 E (rfl : zk 0 = 9) _) rfl rfl rfl hl.1 rfl (Nat.le_of_ble_eq_true rfl) dX11_train_34 ⟨Nat.zero_le _, Nat.zero_le _⟩ (fun r2 G2 H locs hw2 hP hS => ?_)
      obtain ⟨rfl, rfl⟩ := hw2
      refine lv_isub hx hb dX11_train_37 ?_
      subst hQ_
      exact z_iret C0 hP hS (v := ((1000000000 : Int32) - (-2 : Int32))) (by exact zQc_of (k := 2) (by simp [A_train, hz_ia, hy_ia, c_21]) (fun k hk => g1_n (by omega)) (g1_s _ _ _) (z_plk (g1_n (by decide)) hp)) dX11_train_38
    · skip
      refine lv_iload_n hx hb dX11_train_24 rfl (lv_at hl 2 rfl) ?_
      refine lv_iconst (v := (1 : Int32)) hx hb dX11_train_25 (by decide) ?_
      refine lv_icmp_le (tgt := 39) hx hb dX11_train_26 (by decide) (fun c_26 => ?_) (fun c_26 => ?_)
      · skip
        have d_26 := Int32.not_lt.mpr c_26
        refine lv_aload_n hx hb dX11_train_39 rfl (lv_at hl 0 rfl) ?_
        refine lv_iload_n hx hb dX11_train_40 rfl (lv_at hl 1 rfl) ?_
        refine z_Vi C0 hP hD hA hS (As := [.int (nI ia)]) (rest := []) (k := 0) (c_X11_runPlan l E _ r n na ia hR hkd hn10 hna (by omega)) (cwV 1 hts (zgV zbw mlRX11_142 imX11_runPlan seX11_runPlan iniRX11 coX11_runPlan) rfl rfl rfl (by decide +kernel) ⟨Nat.le_of_ble_eq_true rfl, Nat.le_of_ble_eq_true rfl⟩) (zk_lt (rfl : zk 0 = 9) (by decide)) (zd_9 E (rfl : zk 0 = 9) _) rfl rfl rfl hl.1 rfl (Nat.le_of_ble_eq_true rfl) dX11_train_41 ⟨Nat.zero_le _, Nat.zero_le _⟩ (fun r3 G3 H locs hw3 hP hS => ?_)
        obtain ⟨hr3, hF3, hTA3, hdr3, h33⟩ := hw3
        subst hr3
        refine lv_istore_n (lv' := [(3, .int (q_fin r n ia)), (0, .ref (E.1 0)), (1, .int (nI ia)), (2, .int what)]) hx hb dX11_train_44 rfl hl (by decide) rfl (fun ls hl => ?_)
        refine lv_iconst (v := (0 : Int32)) hx hb dX11_train_45 (by decide) ?_
        refine lv_istore (lv' := [(4, .int (0 : Int32)), (3, .int (q_fin r n ia)), (0, .ref (E.1 0)), (1, .int (nI ia)), (2, .int what)]) hx hb dX11_train_46 hl (by decide) rfl (fun ls hl => ?_)
        refine lv_aload_n hx hb dX11_train_48 rfl (lv_at hl 2 rfl) ?_
        refine lv_iload_n hx hb dX11_train_49 rfl (lv_at hl 3 rfl) ?_
        refine lv_iconst (v := (0 : Int32)) hx hb dX11_train_50 (by decide) ?_
        refine lv_iconst (v := (1 : Int32)) hx hb dX11_train_51 (by decide) ?_
        refine z_Vi C0 hP hD hA hS (As := [.int (nI ia), .int (0 : Int32), .int (1 : Int32)]) (rest := []) (k := 0) (c_X11_finishWith l E _ r n na ia 0 (1 : Int32) (zFA_fr hR (fun k hk => hF3 k (by omega)) hna) hkd hn10 hna (by omega) (by omega)) (cwV 3 hts (zgV zbw mlRX11_201 imX11_finishWith seX11_finishWith iniRX11 coX11_finishWith) rfl rfl rfl (by decide +kernel) ⟨Nat.le_of_ble_eq_true rfl, Nat.le_of_ble_eq_true rfl⟩) (zk_lt (rfl : zk 0 = 9) (by decide)) (zd_9 E (rfl : zk 0 = 9) _) rfl rfl rfl hl.1 rfl (Nat.le_of_ble_eq_true rfl) dX11_train_52 ⟨Nat.zero_le _, Nat.zero_le _⟩ (fun r4 G4 H locs hw4 hP hS => ?_)
        obtain ⟨hr4, hF4⟩ := hw4
        subst hr4
        refine lv_istore (lv' := [(5, .int (q_with r n ia 0 (1 : Int32))), (4, .int (0 : Int32)), (3, .int (q_fin r n ia)), (0, .ref (E.1 0)), (1, .int (nI ia)), (2, .int what)]) hx hb dX11_train_55 hl (by decide) rfl (fun ls hl => ?_)
        refine lv_iconst (v := (1 : Int32)) hx hb dX11_train_57 (by decide) ?_
        refine lv_istore (lv' := [(6, .int (1 : Int32)), (5, .int (q_with r n ia 0 (1 : Int32))), (4, .int (0 : Int32)), (3, .int (q_fin r n ia)), (0, .ref (E.1 0)), (1, .int (nI ia)), (2, .int what)]) hx hb dX11_train_58 hl (by decide) rfl (fun ls hl => ?_)
        have cut_60 : ∀ (fuel : Nat), ∀ (k m : Nat) (ls_ : Int32) (Gc : zG) (H : Heap) (locs : List Loc) (ls : Array Slot), (1 ≤ k ∧ k ≤ 3) → (m = s_arg (q_tr r n ia) (k - 1)) → (ls_ = q_tr r n ia m) → (∀ k, (k < 48 ∨ 58 < k) → Gc k = G k) → zP E Gc H → va_S (zA E s_.heap.size) s_.heap H locs → lv_has ls 8 [(0, .ref (E.1 0)), (1, .int (nI ia)), (2, .int what), (3, .int (q_fin r n ia)), (4, .int (nI m)), (5, .int ls_), (6, .int (nI k))] → 3 - k < fuel → W p_ l e_ ({ frames := 5, cells := 0, slots := 0, locals := 113 } : Room) s_ m_ a_ b_ me_ c_ H locs 0 0 Q_ (F0 m_ 60 ls []) := by
          intro fuel
          induction fuel with
          | zero =>
            intro k m  ls_  Gc  H locs ls hk1 hm hls hFc hP hS hl hfu
            exact absurd hfu (Nat.not_lt_zero _)
          | succ fuel ih_60 =>
            intro k m  ls_  Gc  H locs ls hk1 hm hls hFc hP hS hl hfu_60
            refine lv_iload hx hb dX11_train_60 (lv_at hl 6 rfl) ?_
            refine lv_iconst (v := (2 : Int32)) hx hb dX11_train_62 (by decide) ?_
            refine z_N_gt hx hb (a := k) (b := 2) (tgt := 97) dX11_train_63 rfl rfl (by omega) (by omega) (by decide) (fun c_63 => ?_) (fun c_63 => ?_)
            · skip
              have e9 : s_arg (q_tr r n ia) 2 = m := by rw [hm, show k - 1 = 2 by omega]
              have e7 := hls
              refine lv_iload_n hx hb dX11_train_97 rfl (lv_at hl 2 rfl) ?_
              refine lv_if_ne (tgt := 106) hx hb dX11_train_98 (by decide) (fun c_98 => ?_) (fun c_98 => ?_)
              · skip
                refine lv_iload_n hx hb dX11_train_106 rfl (lv_at hl 3 rfl) ?_
                refine lv_iload hx hb dX11_train_107 (lv_at hl 5 rfl) ?_
                refine lv_isub hx hb dX11_train_109 ?_
                subst hQ_
                exact z_iret C0 hP hS (v := ((q_fin r n ia) - ls_)) (by exact zQc_of (k := 0) (by simp [A_train, hz_ia, hy_ia, c_21, d_26, c_63, e9, e7, c_98]) (fun k hk => hFc k (by omega)) (hFc _ (by decide)) (z_plk (hFc _ (by decide)) hp)) dX11_train_110
              · skip
                refine lv_iload hx hb dX11_train_101 (lv_at hl 4 rfl) ?_
                refine lv_goto (tgt := 110) hx hb dX11_train_103 (by decide) ?_
                subst hQ_
                exact z_iret C0 hP hS (v := (nI m)) (by exact zQc_of (k := 0) (by simp [A_train, hz_ia, hy_ia, c_21, d_26, c_63, e9, e7, c_98]) (fun k hk => hFc k (by omega)) (hFc _ (by decide)) (z_plk (hFc _ (by decide)) hp)) dX11_train_110
            · skip
              refine lv_aload_n hx hb dX11_train_66 rfl (lv_at hl 0 rfl) ?_
              refine lv_iload_n hx hb dX11_train_67 rfl (lv_at hl 1 rfl) ?_
              refine lv_iload hx hb dX11_train_68 (lv_at hl 6 rfl) ?_
              refine lv_iconst (v := (1 : Int32)) hx hb dX11_train_70 (by decide) ?_
              refine z_Vi C0 hP hD hA hS (As := [.int (nI ia), .int (nI k), .int (1 : Int32)]) (rest := []) (k := 0) (c_X11_finishWith l E _ r n na ia k (1 : Int32) (zFA_fr hR (fun k hk => hFc k (by omega)) hna) hkd hn10 hna (by omega) (by omega)) (cwV 3 hts (zgV zbw mlRX11_201 imX11_finishWith seX11_finishWith iniRX11 coX11_finishWith) rfl rfl rfl (by decide +kernel) ⟨Nat.le_of_ble_eq_true rfl, Nat.le_of_ble_eq_true rfl⟩) (zk_lt (rfl : zk 0 = 9) (by decide)) (zd_9 E (rfl : zk 0 = 9) _) rfl rfl rfl hl.1 rfl (Nat.le_of_ble_eq_true rfl) dX11_train_71 ⟨Nat.zero_le _, Nat.zero_le _⟩ (fun r5 G5 H locs hw5 hP hS => ?_)
              obtain ⟨hr5, hF5⟩ := hw5
              subst hr5
              refine lv_istore (lv' := [(7, .int (q_with r n ia k (1 : Int32))), (0, .ref (E.1 0)), (1, .int (nI ia)), (2, .int what), (3, .int (q_fin r n ia)), (4, .int (nI m)), (5, .int ls_), (6, .int (nI k))]) hx hb dX11_train_74 hl (by decide) rfl (fun ls hl => ?_)
              refine lv_iload hx hb dX11_train_76 (lv_at hl 0 rfl) ?_
              refine lv_iload hx hb dX11_train_78 (lv_at hl 6 rfl) ?_
              refine lv_icmp_ge (tgt := 91) hx hb dX11_train_80 (by decide) (fun c_80 => ?_) (fun c_80 => ?_)
              · skip
                have d_80 := Int32.not_lt.mpr c_80
                refine lv_iinc (v := (nI (k + 1))) (lv' := [(6, .int (nI (k + 1))), (7, .int (q_with r n ia k (1 : Int32))), (0, .ref (E.1 0)), (1, .int (nI ia)), (2, .int what), (3, .int (q_fin r n ia)), (4, .int (nI m)), (5, .int ls_)]) hx hb dX11_train_91 hl (k := 7) rfl (z_inc (by decide)) (by decide) rfl (fun ls hl => ?_)
                refine lv_goto (tgt := 60) hx hb dX11_train_94 (by decide) ?_
                exact ih_60 (k + 1) m ls_ G5 _ _ _ (by omega) (by have e1 : k + 1 - 1 = (k - 1) + 1 := (by omega); have e2 : k - 1 + 1 = k := (by omega); rw [e1]; show m = if _ then _ else _; rw [e2, ← hm, ← hls]; exact (if_neg d_80).symm) (by exact hls) (by exact fun k hk => (hF5 k (by omega)).trans (hFc k (by omega))) hP hS (lv_sub hl [2, 3, 4, 5, 6, 7, 0] rfl) (by omega)
              · skip
                have d_80 := Int32.not_le.mp c_80
                refine lv_iload hx hb dX11_train_83 (lv_at hl 0 rfl) ?_
                refine lv_istore (lv' := [(5, .int (q_with r n ia k (1 : Int32))), (7, .int (q_with r n ia k (1 : Int32))), (0, .ref (E.1 0)), (1, .int (nI ia)), (2, .int what), (3, .int (q_fin r n ia)), (4, .int (nI m)), (6, .int (nI k))]) hx hb dX11_train_85 hl (by decide) rfl (fun ls hl => ?_)
                refine lv_iload hx hb dX11_train_87 (lv_at hl 7 rfl) ?_
                refine lv_istore (lv' := [(4, .int (nI k)), (5, .int (q_with r n ia k (1 : Int32))), (7, .int (q_with r n ia k (1 : Int32))), (0, .ref (E.1 0)), (1, .int (nI ia)), (2, .int what), (3, .int (q_fin r n ia)), (6, .int (nI k))]) hx hb dX11_train_89 hl (by decide) rfl (fun ls hl => ?_)
                refine lv_iinc (v := (nI (k + 1))) (lv' := [(6, .int (nI (k + 1))), (4, .int (nI k)), (5, .int (q_with r n ia k (1 : Int32))), (7, .int (q_with r n ia k (1 : Int32))), (0, .ref (E.1 0)), (1, .int (nI ia)), (2, .int what), (3, .int (q_fin r n ia))]) hx hb dX11_train_91 hl (k := 7) rfl (z_inc (by decide)) (by decide) rfl (fun ls hl => ?_)
                refine lv_goto (tgt := 60) hx hb dX11_train_94 (by decide) ?_
                exact ih_60 (k + 1) k (q_with r n ia k (1 : Int32)) G5 _ _ _ (by omega) (by have e1 : k + 1 - 1 = (k - 1) + 1 := (by omega); have e2 : k - 1 + 1 = k := (by omega); rw [e1]; show k = if _ then _ else _; rw [e2, ← hm, ← hls]; exact (if_pos d_80).symm) (by rfl) (by exact fun k hk => (hF5 k (by omega)).trans (hFc k (by omega))) hP hS (lv_sub hl [4, 5, 6, 7, 1, 2, 0] rfl) (by omega)
        exact cut_60 (_ + 1) 1 0 (q_with r n ia 0 (1 : Int32)) G4 _ _ _ (by omega) (by rfl) (by rfl) (by exact fun k hk => (hF4 k (by omega)).trans (hF3 k (by omega))) hP hS (lv_sub hl [4, 5, 6, 3, 2, 1, 0] rfl) (Nat.lt_succ_self _)
      · skip
        have d_26 := Int32.not_le.mp c_26
        refine lv_ldc (v := (1000000000 : Int32)) hx hb C0.2.2.2.1 (hts _ (zm kkRX11_200)) dX11_train_29 ?_
        refine lv_aload_n hx hb dX11_train_31 rfl (lv_at hl 0 rfl) ?_
        refine lv_bipush (v := (-2 : Int32)) hx hb dX11_train_32 (by decide) ?_
        refine z_Vi C0 hP hD hA hS (As := [.int (-2 : Int32)]) (rest := [.int (1000000000 : Int32)]) (k := 0) (c_X11_refuse l E _ (-2 : Int32) 2 (by decide) (by decide) (by decide)) (cwV 1 hts (zgV zbw mlRX11_72 imX11_refuse seX11_refuse iniRX11 coX11_refuse) rfl rfl rfl (by decide +kernel) ⟨Nat.le_of_ble_eq_true rfl, Nat.le_of_ble_eq_true rfl⟩) (zk_lt (rfl : zk 0 = 9) (by decide)) (zd_9 E (rfl : zk 0 = 9) _) rfl rfl rfl hl.1 rfl (Nat.le_of_ble_eq_true rfl) dX11_train_34 ⟨Nat.zero_le _, Nat.zero_le _⟩ (fun r6 G6 H locs hw6 hP hS => ?_)
        obtain ⟨rfl, rfl⟩ := hw6
        refine lv_isub hx hb dX11_train_37 ?_
        subst hQ_
        exact z_iret C0 hP hS (v := ((1000000000 : Int32) - (-2 : Int32))) (by exact zQc_of (k := 2) (by simp [A_train, hz_ia, hy_ia, c_21, d_26]) (fun k hk => g1_n (by omega)) (g1_s _ _ _) (z_plk (g1_n (by decide)) hp)) dX11_train_38
  · skip
    have hz_ia := zin_f (by omega) hno1
    refine lv_if_ne (tgt := 20) hx hb dX11_train_8 (by decide) (fun h_ => absurd (by decide) h_) (fun _ => ?_)
    refine lv_ldc (v := (1000000000 : Int32)) hx hb C0.2.2.2.1 (hts _ (zm kkRX11_200)) dX11_train_11 ?_
    refine lv_aload_n hx hb dX11_train_13 rfl (lv_at hl 0 rfl) ?_
    refine lv_iconst (v := (-1 : Int32)) hx hb dX11_train_14 (by decide) ?_
    refine z_Vi C0 hP hD hA hS (As := [.int (-1 : Int32)]) (rest := [.int (1000000000 : Int32)]) (k := 0) (c_X11_refuse l E _ (-1 : Int32) 1 (by decide) (by decide) (by decide)) (cwV 1 hts (zgV zbw mlRX11_72 imX11_refuse seX11_refuse iniRX11 coX11_refuse) rfl rfl rfl (by decide +kernel) ⟨Nat.le_of_ble_eq_true rfl, Nat.le_of_ble_eq_true rfl⟩) (zk_lt (rfl : zk 0 = 9) (by decide)) (zd_9 E (rfl : zk 0 = 9) _) rfl rfl rfl hl.1 rfl (Nat.le_of_ble_eq_true rfl) dX11_train_15 ⟨Nat.zero_le _, Nat.zero_le _⟩ (fun r7 G7 H locs hw7 hP hS => ?_)
    obtain ⟨rfl, rfl⟩ := hw7
    refine lv_isub hx hb dX11_train_18 ?_
    subst hQ_
    exact z_iret C0 hP hS (v := ((1000000000 : Int32) - (-1 : Int32))) (by exact zQc_of (k := 1) (by simp [A_train, hz_ia]) (fun k hk => g1_n (by omega)) (g1_s _ _ _) (z_plk (g1_n (by decide)) hp)) dX11_train_19
set_option maxHeartbeats 4000000 in
set_option maxRecDepth 100000 in
theorem c_X12_drink (l : Launch) (E : zE) (G : zG) (r : Nat → Int32) (n na : Nat) (athlete what : Int32) (hM : G 93 = r) (hrn : r 0 = nI n) (hrna : r 1 = nI na) (hn10 : n ≤ 10) (hna : na ≤ 5) : zMi l yX12_drink wsX12_drink ({ frames := 6, cells := 0, slots := 0, locals := 142 } : Room) E G [.ref (E.1 92), .int athlete, .int what] (fun r1 G1 => zQm (A_drink r n na athlete what) G r1 G1) := by
  refine zOf (cc := cX12_drink) (nL := 7) (ret := (some .int)) RX12 (by decide) rfl rfl (Nat.le_of_ble_eq_true rfl) ?_
  intro p_ e_ s_ m_ a_ b_ me_ c_ ls C0 hP hS hl
  have hx := C0.1
  have hb := C0.2.1
  have hts := C0.2.2.2.2.1
  have hD : zD E (zA E s_.heap.size) := C0.2.2.2.2.2.2.2.2
  have hA : ∀ q : Nat, s_.heap.size ≤ q → zA E s_.heap.size q := fun q h => Or.inr h
  refine z_gen (fun Q_ hQ_ => ?_)
  have hl : lv_has ls 7 [(0, .ref (E.1 92)), (1, .int athlete), (2, .int what)] := hl
  refine lv_aload_n hx hb dX12_drink_0 rfl (lv_at hl 0 rfl) ?_
  refine lv_iload_n hx hb dX12_drink_1 rfl (lv_at hl 1 rfl) ?_
  refine z_Vi C0 hP hD hA hS (As := [.int athlete]) (rest := []) (k := 92) (c_X12_isAthlete l E _ na athlete ((congrFun (hM) _).trans (hrna)) (by omega)) (cwV 1 hts (zgV zbw mlRX12_136 imX12_isAthlete seX12_isAthlete iniRX12 coX12_isAthlete) rfl rfl rfl (by decide +kernel) ⟨Nat.le_of_ble_eq_true rfl, Nat.le_of_ble_eq_true rfl⟩) (zk_lt (rfl : zk 92 = 10) (by decide)) (zd_10 E (rfl : zk 92 = 10) _) rfl rfl rfl hl.1 rfl (Nat.le_of_ble_eq_true rfl) dX12_drink_2 ⟨Nat.zero_le _, Nat.zero_le _⟩ (fun r1 G1 H locs hw1 hP hS => ?_)
  rcases hw1 with ⟨rfl, rfl, ia, hia, rfl⟩ | ⟨rfl, rfl, hno1⟩
  · skip
    have hz_ia := zin_t hia (by omega)
    have hy_ia : zix (nI ia) = ia := zix_n (by omega)
    refine lv_if_ne (tgt := 14) hx hb dX12_drink_5 (by decide) (fun _ => ?_) (fun h_ => absurd h_ (by decide))
    refine lv_iload_n hx hb dX12_drink_14 rfl (lv_at hl 2 rfl) ?_
    refine lv_iconst (v := (0 : Int32)) hx hb dX12_drink_15 (by decide) ?_
    refine lv_iconst (v := (1 : Int32)) hx hb dX12_drink_16 (by decide) ?_
    refine z_Si C0 hP hD hA hS (As := [.int what, .int (0 : Int32), .int (1 : Int32)]) (rest := []) (c_X12_isIn l E _ what (0 : Int32) (1 : Int32)) (va_cwS 3 hts (zgS zbw mlRX12_62 stX12_isIn iniRX12 coX12_isIn) rfl rfl rfl (by decide +kernel) ⟨Nat.le_of_ble_eq_true rfl, Nat.le_of_ble_eq_true rfl⟩) rfl hl.1 rfl (Nat.le_of_ble_eq_true rfl) dX12_drink_17 ⟨Nat.zero_le _, Nat.zero_le _⟩ (fun r2 G2 H locs hw2 hP hS => ?_)
    rcases hw2 with ⟨rfl, rfl, hi1_2, hi2_2⟩ | ⟨rfl, rfl, hi0_2⟩
    · skip
      have hi3_2 := Int32.not_lt.mpr hi1_2
      have hi4_2 := Int32.not_lt.mpr hi2_2
      refine lv_if_ne (tgt := 30) hx hb dX12_drink_20 (by decide) (fun _ => ?_) (fun h_ => absurd h_ (by decide))
      refine lv_bipush (v := (-9 : Int32)) hx hb dX12_drink_30 (by decide) ?_
      refine lv_istore_n (lv' := [(3, .int (-9 : Int32)), (0, .ref (E.1 92)), (1, .int (nI ia)), (2, .int what)]) hx hb dX12_drink_32 rfl hl (by decide) rfl (fun ls hl => ?_)
      refine lv_aload_n hx hb dX12_drink_33 rfl (lv_at hl 1 rfl) ?_
      refine lv_aload_n hx hb dX12_drink_34 rfl (lv_at hl 1 rfl) ?_
      refine z_get C0 hP (C := RX12) (T := TX12) (N := 21) (ci := 10) (index := 9) (k := 92) (ref := "WetSuitPedalsShoesModel") (zk_lt (rfl : zk 92 = 10) (by decide)) (zd_10 E (rfl : zk 92 = 10) _) rfl (zmi inU_12) 0 (by decide) (zm flRX12_9) rfl (v := .ref (E.1 93)) (rfl) dX12_drink_35 ?_
      refine lv_iload_n hx hb dX12_drink_38 rfl (lv_at hl 2 rfl) ?_
      refine z_Vi C0 hP hD hA hS (As := [.ref (E.1 93), .int (nI ia)]) (rest := []) (k := 92) (c_X12_finishOf l E _ 93 ia n z_lit_Arr102_93 (by omega) ((congrFun (hM) _).trans (hrn)) (by omega) (by omega)) (cwV 2 hts (zgV zbw mlRX12_156 imX12_finishOf seX12_finishOf iniRX12 coX12_finishOf) rfl rfl rfl (by decide +kernel) ⟨Nat.le_of_ble_eq_true rfl, Nat.le_of_ble_eq_true rfl⟩) (zk_lt (rfl : zk 92 = 10) (by decide)) (zd_10 E (rfl : zk 92 = 10) _) rfl rfl rfl hl.1 rfl (Nat.le_of_ble_eq_true rfl) dX12_drink_39 ⟨Nat.zero_le _, Nat.zero_le _⟩ (fun r3 G3 H locs hw3 hP hS => ?_)
      obtain ⟨hr3, hF3, hrow3⟩ := hw3
      rw [show G 93 = r from hM] at hr3 hrow3
      subst hr3
      refine lv_istore (lv' := [(4, .int (q_fin r n ia)), (3, .int (-9 : Int32)), (0, .ref (E.1 92)), (1, .int (nI ia)), (2, .int what)]) hx hb dX12_drink_42 hl (by decide) rfl (fun ls hl => ?_)
      refine lv_iconst (v := (0 : Int32)) hx hb dX12_drink_44 (by decide) ?_
      refine lv_istore (lv' := [(5, .int (0 : Int32)), (4, .int (q_fin r n ia)), (3, .int (-9 : Int32)), (0, .ref (E.1 92)), (1, .int (nI ia)), (2, .int what)]) hx hb dX12_drink_45 hl (by decide) rfl (fun ls hl => ?_)
      have cut_47 : ∀ (fuel : Nat), ∀ (i : Nat) (ls_ mo : Int32) (Gc : zG) (H : Heap) (locs : List Loc) (ls : Array Slot), (i ≤ n) → (ls_ = (s_best (fun i => (m_run r ia (nI i) n).2) (q_fin r n ia) i).1) → (mo = s_or9 (s_best (fun i => (m_run r ia (nI i) n).2) (q_fin r n ia) i).2) → (∀ k, (k < 100 ∨ 102 < k) → Gc k = G k) → zP E Gc H → va_S (zA E s_.heap.size) s_.heap H locs → lv_has ls 7 [(0, .ref (E.1 92)), (1, .int (nI ia)), (2, .int what), (3, .int mo), (4, .int ls_), (5, .int (nI i))] → n - i < fuel → W p_ l e_ ({ frames := 6, cells := 0, slots := 0, locals := 142 } : Room) s_ m_ a_ b_ me_ c_ H locs 0 0 Q_ (F0 m_ 47 ls []) := by
        intro fuel
        induction fuel with
        | zero =>
          intro i  ls_ mo  Gc  H locs ls hin hls hmo hFc hP hS hl hfu
          exact absurd hfu (Nat.not_lt_zero _)
        | succ fuel ih_47 =>
          intro i  ls_ mo  Gc  H locs ls hin hls hmo hFc hP hS hl hfu_47
          refine lv_iload hx hb dX12_drink_47 (lv_at hl 5 rfl) ?_
          refine lv_aload_n hx hb dX12_drink_49 rfl (lv_at hl 0 rfl) ?_
          refine z_get C0 hP (C := RX12) (T := TX12) (N := 21) (ci := 10) (index := 9) (k := 92) (ref := "WetSuitPedalsShoesModel") (zk_lt (rfl : zk 92 = 10) (by decide)) (zd_10 E (rfl : zk 92 = 10) _) rfl (zmi inU_12) 0 (by decide) (zm flRX12_9) rfl (v := .ref (E.1 93)) (rfl) dX12_drink_50 ?_
          refine lv_iconst (v := (0 : Int32)) hx hb dX12_drink_53 (by decide) ?_
          refine z_iald C0 hP (k := 93) (i := 0) (v := (nI n)) (rfl : zk 93 = 11) (Nat.lt_of_lt_of_eq (show 0 < 102 by decide) (rfl : zl 93 = 102).symm) rfl dX12_drink_54 ((congrFun ((hFc _ (by decide)).trans (hM)) _).trans (hrn)) ?_
          refine z_N_ge hx hb (a := i) (b := n) (tgt := 94) dX12_drink_55 rfl rfl (by omega) (by omega) (by decide) (fun c_55 => ?_) (fun c_55 => ?_)
          · skip
            have e8 : i = n := by omega
            rw [e8] at hls hmo
            have hb9 := s_best_lt (f := fun i_ => (m_run r ia (nI i_) n).2) (x0 := q_fin r n ia) (i := n)
            have hq1 : (q_drink r n ia).1 = ls_ := hls.symm
            have hq2 : s_or9 (q_drink r n ia).2 = mo := hmo.symm
            have hb8 : (q_drink r n ia).2 = 99 ∨ (q_drink r n ia).2 < n := hb9
            refine lv_iload_n hx hb dX12_drink_94 rfl (lv_at hl 3 rfl) ?_
            refine lv_if_lt (tgt := 102) hx hb dX12_drink_95 (by decide) (fun c_95 => ?_) (fun c_95 => ?_)
            · skip
              have hk9 := (show (q_drink r n ia).2 = 99 from s_or9_neg (hq2.symm ▸ c_95) (by omega))
              have hk8 := (show s_or9 99 = mo from hk9 ▸ hq2)
              refine lv_iload_n hx hb dX12_drink_102 rfl (lv_at hl 3 rfl) ?_
              refine lv_goto (tgt := 108) hx hb dX12_drink_103 (by decide) ?_
              subst hQ_
              exact z_iret C0 hP hS (v := mo) (by exact zQm_of (k := 0) (by simp [A_drink, hz_ia, hy_ia, hi3_2, hi4_2, c_55, hq1, hq2, c_95, hk9, hk8]) (fun k hk => hFc k (by omega)) (hFc _ (by decide))) dX12_drink_108
            · skip
              have hk9 := (show ¬ (q_drink r n ia).2 = 99 from fun q => c_95 (by rw [← hq2, q]; decide))
              refine lv_iload_n hx hb dX12_drink_98 rfl (lv_at hl 2 rfl) ?_
              refine lv_if_ne (tgt := 106) hx hb dX12_drink_99 (by decide) (fun c_99 => ?_) (fun c_99 => ?_)
              · skip
                refine lv_iload hx hb dX12_drink_106 (lv_at hl 4 rfl) ?_
                subst hQ_
                exact z_iret C0 hP hS (v := ls_) (by exact zQm_of (k := 0) (by simp [A_drink, hz_ia, hy_ia, hi3_2, hi4_2, c_55, hq1, hq2, c_95, hk9, c_99]) (fun k hk => hFc k (by omega)) (hFc _ (by decide))) dX12_drink_108
              · skip
                refine lv_iload_n hx hb dX12_drink_102 rfl (lv_at hl 3 rfl) ?_
                refine lv_goto (tgt := 108) hx hb dX12_drink_103 (by decide) ?_
                subst hQ_
                exact z_iret C0 hP hS (v := mo) (by exact zQm_of (k := 0) (by simp [A_drink, hz_ia, hy_ia, hi3_2, hi4_2, c_55, hq1, hq2, c_95, hk9, c_99]) (fun k hk => hFc k (by omega)) (hFc _ (by decide))) dX12_drink_108
          · skip
            refine lv_aload_n hx hb dX12_drink_58 rfl (lv_at hl 0 rfl) ?_
            refine lv_aload_n hx hb dX12_drink_59 rfl (lv_at hl 0 rfl) ?_
            refine z_get C0 hP (C := RX12) (T := TX12) (N := 21) (ci := 10) (index := 9) (k := 92) (ref := "WetSuitPedalsShoesModel") (zk_lt (rfl : zk 92 = 10) (by decide)) (zd_10 E (rfl : zk 92 = 10) _) rfl (zmi inU_12) 0 (by decide) (zm flRX12_9) rfl (v := .ref (E.1 93)) (rfl) dX12_drink_60 ?_
            refine lv_iload_n hx hb dX12_drink_63 rfl (lv_at hl 1 rfl) ?_
            refine lv_iload hx hb dX12_drink_64 (lv_at hl 5 rfl) ?_
            refine z_Vi C0 hP hD hA hS (As := [.ref (E.1 93), .int (nI ia), .int (nI i)]) (rest := []) (k := 92) (c_X12_goes l E _ 93 ia n (nI i) z_lit_Arr102_93 (by omega) ((congrFun ((hFc _ (by decide)).trans (hM)) _).trans (hrn)) (by omega) (by omega)) (cwV 3 hts (zgV zbw mlRX12_102 imX12_goes seX12_goes iniRX12 coX12_goes) rfl rfl rfl (by decide +kernel) ⟨Nat.le_of_ble_eq_true rfl, Nat.le_of_ble_eq_true rfl⟩) (zk_lt (rfl : zk 92 = 10) (by decide)) (zd_10 E (rfl : zk 92 = 10) _) rfl rfl rfl hl.1 rfl (Nat.le_of_ble_eq_true rfl) dX12_drink_66 ⟨Nat.zero_le _, Nat.zero_le _⟩ (fun r4 G4 H locs hw4 hP hS => ?_)
            obtain ⟨hr4, hF4, hrow4⟩ := hw4
            rw [show Gc 93 = r from (hFc _ (by decide)).trans (hM)] at hr4 hrow4
            subst hr4
            refine lv_istore (lv' := [(6, .int ((m_run r ia (nI i) n).2)), (0, .ref (E.1 92)), (1, .int (nI ia)), (2, .int what), (3, .int mo), (4, .int ls_), (5, .int (nI i))]) hx hb dX12_drink_69 hl (by decide) rfl (fun ls hl => ?_)
            refine lv_iload hx hb dX12_drink_71 (lv_at hl 0 rfl) ?_
            refine lv_iload hx hb dX12_drink_73 (lv_at hl 5 rfl) ?_
            refine lv_icmp_lt (tgt := 81) hx hb dX12_drink_75 (by decide) (fun c_75 => ?_) (fun c_75 => ?_)
            · skip
              refine lv_iload hx hb dX12_drink_81 (lv_at hl 6 rfl) ?_
              refine lv_istore_n (lv' := [(3, .int (nI i)), (6, .int ((m_run r ia (nI i) n).2)), (0, .ref (E.1 92)), (1, .int (nI ia)), (2, .int what), (4, .int ls_), (5, .int (nI i))]) hx hb dX12_drink_83 rfl hl (by decide) rfl (fun ls hl => ?_)
              refine lv_iload hx hb dX12_drink_84 (lv_at hl 1 rfl) ?_
              refine lv_istore (lv' := [(4, .int ((m_run r ia (nI i) n).2)), (3, .int (nI i)), (6, .int ((m_run r ia (nI i) n).2)), (0, .ref (E.1 92)), (1, .int (nI ia)), (2, .int what), (5, .int (nI i))]) hx hb dX12_drink_86 hl (by decide) rfl (fun ls hl => ?_)
              refine lv_iinc (v := (nI (i + 1))) (lv' := [(5, .int (nI (i + 1))), (4, .int ((m_run r ia (nI i) n).2)), (3, .int (nI i)), (6, .int ((m_run r ia (nI i) n).2)), (0, .ref (E.1 92)), (1, .int (nI ia)), (2, .int what)]) hx hb dX12_drink_88 hl (k := 6) rfl (z_inc (by decide)) (by decide) rfl (fun ls hl => ?_)
              refine lv_goto (tgt := 47) hx hb dX12_drink_91 (by decide) ?_
              exact ih_47 (i + 1) ((m_run r ia (nI i) n).2) (nI i) G4 _ _ _ (by first | assumption | omega) (by rw [show s_best (fun i => (m_run r ia (nI i) n).2) (q_fin r n ia) (i + 1) = ((m_run r ia (nI i) n).2, i) from s_best_y (by rw [← hls]; exact c_75)]) (by rw [show s_best (fun i => (m_run r ia (nI i) n).2) (q_fin r n ia) (i + 1) = ((m_run r ia (nI i) n).2, i) from s_best_y (by rw [← hls]; exact c_75)]; unfold s_or9; rw [if_neg (by omega)]) (by exact fun k hk => (hF4 k (by omega)).trans (hFc k (by omega))) hP hS (lv_sub hl [4, 5, 6, 2, 1, 0] rfl) (by omega)
            · skip
              refine lv_goto (tgt := 88) hx hb dX12_drink_78 (by decide) ?_
              refine lv_iinc (v := (nI (i + 1))) (lv' := [(5, .int (nI (i + 1))), (6, .int ((m_run r ia (nI i) n).2)), (0, .ref (E.1 92)), (1, .int (nI ia)), (2, .int what), (3, .int mo), (4, .int ls_)]) hx hb dX12_drink_88 hl (k := 6) rfl (z_inc (by decide)) (by decide) rfl (fun ls hl => ?_)
              refine lv_goto (tgt := 47) hx hb dX12_drink_91 (by decide) ?_
              exact ih_47 (i + 1) ls_ mo G4 _ _ _ (by first | assumption | omega) (by rw [show s_best (fun i => (m_run r ia (nI i) n).2) (q_fin r n ia) (i + 1) = s_best (fun i => (m_run r ia (nI i) n).2) (q_fin r n ia) i from s_best_n (fun q => c_75 (by rw [hls]; exact q))]; exact hls) (by rw [show s_best (fun i => (m_run r ia (nI i) n).2) (q_fin r n ia) (i + 1) = s_best (fun i => (m_run r ia (nI i) n).2) (q_fin r n ia) i from s_best_n (fun q => c_75 (by rw [hls]; exact q))]; exact hmo) (by exact fun k hk => (hF4 k (by omega)).trans (hFc k (by omega))) hP hS (lv_sub hl [2, 3, 4, 5, 6, 0] rfl) (by omega)
      exact cut_47 (_ + 1) 0 (q_fin r n ia) (-9 : Int32) G3 _ _ _ (by first | assumption | omega) (by rfl) (by rfl) (by exact fun k hk => hF3 k (by omega)) hP hS (lv_sub hl [3, 4, 5, 2, 1, 0] rfl) (Nat.lt_succ_self _)
    · skip
      have hi5_2 := z_nin hi0_2
      refine lv_if_ne (tgt := 30) hx hb dX12_drink_20 (by decide) (fun h_ => absurd (by decide) h_) (fun _ => ?_)
      refine lv_aload_n hx hb dX12_drink_23 rfl (lv_at hl 0 rfl) ?_
      refine lv_bipush (v := (-2 : Int32)) hx hb dX12_drink_24 (by decide) ?_
      refine z_Vi C0 hP hD hA hS (As := [.int (-2 : Int32)]) (rest := []) (k := 92) (c_X12_no l E _ (-2 : Int32) 2 (by decide) (by decide)) (cwV 1 hts (zgV zbw mlRX12_56 imX12_no seX12_no iniRX12 coX12_no) rfl rfl rfl (by decide +kernel) ⟨Nat.le_of_ble_eq_true rfl, Nat.le_of_ble_eq_true rfl⟩) (zk_lt (rfl : zk 92 = 10) (by decide)) (zd_10 E (rfl : zk 92 = 10) _) rfl rfl rfl hl.1 rfl (Nat.le_of_ble_eq_true rfl) dX12_drink_26 ⟨Nat.zero_le _, Nat.zero_le _⟩ (fun r5 G5 H locs hw5 hP hS => ?_)
      obtain ⟨rfl, rfl⟩ := hw5
      subst hQ_
      exact z_iret C0 hP hS (v := (-2 : Int32)) (by exact zQm_of (k := 2) (by simp [A_drink, hz_ia, hy_ia, hi5_2]) (fun k hk => g1_n (by omega)) (g1_s _ _ _)) dX12_drink_29
  · skip
    have hz_ia := zin_f (by omega) hno1
    refine lv_if_ne (tgt := 14) hx hb dX12_drink_5 (by decide) (fun h_ => absurd (by decide) h_) (fun _ => ?_)
    refine lv_aload_n hx hb dX12_drink_8 rfl (lv_at hl 0 rfl) ?_
    refine lv_iconst (v := (-1 : Int32)) hx hb dX12_drink_9 (by decide) ?_
    refine z_Vi C0 hP hD hA hS (As := [.int (-1 : Int32)]) (rest := []) (k := 92) (c_X12_no l E _ (-1 : Int32) 1 (by decide) (by decide)) (cwV 1 hts (zgV zbw mlRX12_56 imX12_no seX12_no iniRX12 coX12_no) rfl rfl rfl (by decide +kernel) ⟨Nat.le_of_ble_eq_true rfl, Nat.le_of_ble_eq_true rfl⟩) (zk_lt (rfl : zk 92 = 10) (by decide)) (zd_10 E (rfl : zk 92 = 10) _) rfl rfl rfl hl.1 rfl (Nat.le_of_ble_eq_true rfl) dX12_drink_10 ⟨Nat.zero_le _, Nat.zero_le _⟩ (fun r6 G6 H locs hw6 hP hS => ?_)
    obtain ⟨rfl, rfl⟩ := hw6
    subst hQ_
    exact z_iret C0 hP hS (v := (-1 : Int32)) (by exact zQm_of (k := 1) (by simp [A_drink, hz_ia]) (fun k hk => g1_n (by omega)) (g1_s _ _ _)) dX12_drink_13
