/-! laid by wip/whole/vcg.py -/
theorem flRX11_305 : Cond.fieldLink RX11 305 "WetSuitPedalsShoes$Row" "numbers" "[I" ∈ zU := zU_m 168 (by decide +kernel) rfl
set_option maxHeartbeats 4000000 in
set_option maxRecDepth 100000 in
theorem c_X11_isAsTold (l : Launch) (E : zE) (G : zG) (r : Nat → Int32) (n na i : Nat) (kd fg : Int32) (hR : zFA G 1 r n na) (hkd : zKd r n) (hn10 : n ≤ 10) (hna : na ≤ 5) (hi : i < n) (hk7 : ∃ k : Nat, k < 7 ∧ kd = nI k) : zMi l yX11_isAsTold wsX11_isAsTold ({ frames := 4, cells := 0, slots := 0, locals := 90 } : Room) E G [.ref (E.1 0), .int (nI i), .int kd, .int fg] (fun r1 G1 => nI (q_tl (upd (upd r (2 + 3 * i) kd) (3 + 3 * i) fg) i na (G 46)) = r1 ∧ ∀ k, (k < 48 ∨ 58 < k) → G1 k = G k) := by
  refine zOf (cc := cX11_isAsTold) (nL := 5) (ret := (some .boolean)) RX11 (by decide) rfl rfl (Nat.le_of_ble_eq_true rfl) ?_
  intro p_ e_ s_ m_ a_ b_ me_ c_ ls C0 hP hS hl
  have hx := C0.1
  have hb := C0.2.1
  have hts := C0.2.2.2.2.1
  have hD : zD E (zA E s_.heap.size) := C0.2.2.2.2.2.2.2.2
  have hA : ∀ q : Nat, s_.heap.size ≤ q → zA E s_.heap.size q := fun q h => Or.inr h
  refine z_gen (fun Q_ hQ_ => ?_)
  have hl : lv_has ls 5 [(0, .ref (E.1 0)), (1, .int (nI i)), (2, .int kd), (3, .int fg)] := hl
  refine lv_iconst (v := (0 : Int32)) hx hb dX11_isAsTold_0 (by decide) ?_
  refine lv_istore (lv' := [(4, .int (0 : Int32)), (0, .ref (E.1 0)), (1, .int (nI i)), (2, .int kd), (3, .int fg)]) hx hb dX11_isAsTold_1 hl (by decide) rfl (fun ls hl => ?_)
  have cut_3 : ∀ (fuel : Nat), ∀ (a : Nat) (Gc : zG) (H : Heap) (locs : List Loc) (ls : Array Slot), (a ≤ na) → (∀ k, (k < 48 ∨ 58 < k) → Gc k = G k) → (s_all (fun a => decide (s_mn 99 (m_sc (upd (upd r (2 + 3 * i) kd) (3 + 3 * i) fg) a (-1) i) = G 46 a)) a = 1) → zP E Gc H → va_S (zA E s_.heap.size) s_.heap H locs → lv_has ls 5 [(0, .ref (E.1 0)), (1, .int (nI i)), (2, .int kd), (3, .int fg), (4, .int (nI a))] → na - a < fuel → W p_ l e_ ({ frames := 4, cells := 0, slots := 0, locals := 90 } : Room) s_ m_ a_ b_ me_ c_ H locs 0 0 Q_ (F0 m_ 3 ls []) := by
    intro fuel
    induction fuel with
    | zero =>
      intro a  Gc  H locs ls han hFc hs hP hS hl hfu
      exact absurd hfu (Nat.not_lt_zero _)
    | succ fuel ih_3 =>
      intro a  Gc  H locs ls han hFc hs hP hS hl hfu_3
      refine lv_iload hx hb dX11_isAsTold_3 (lv_at hl 4 rfl) ?_
      refine lv_aload_n hx hb dX11_isAsTold_5 rfl (lv_at hl 0 rfl) ?_
      refine z_get C0 hP (C := RX11) (T := TX11) (N := 11) (ci := 9) (index := 10) (k := 0) (ref := "WetSuitPedalsShoes") (zk_lt (rfl : zk 0 = 9) (by decide)) (zd_9 E (rfl : zk 0 = 9) _) rfl (zmi inU_11) 0 (by decide) (zm flRX11_10) rfl (v := .ref (E.1 1)) (rfl) dX11_isAsTold_6 ?_
      refine z_get C0 hP (C := RX3) (T := TX3) (N := 3) (ci := 3) (index := 241) (k := 1) (ref := "WetSuitPedalsShoes$Field") (zk_lt (rfl : zk 1 = 3) (by decide)) (zd_3 E (rfl : zk 1 = 3) _) rfl (zmi inU_3) 2 (by decide) (zm flRX11_241) rfl (v := .int (nI na)) (congrArg (fun z => some (Value.int z)) ((congrFun (hFc _ (by decide)) _).trans (hR.2.1))) dX11_isAsTold_9 ?_
      refine z_N_ge hx hb (a := a) (b := na) (tgt := 95) dX11_isAsTold_12 rfl rfl (by omega) (by omega) (by decide) (fun c_12 => ?_) (fun c_12 => ?_)
      · skip
        refine lv_iconst (v := (1 : Int32)) hx hb dX11_isAsTold_95 (by decide) ?_
        subst hQ_
        exact z_zret C0 hP hS (v := (1 : Int32)) (by decide) (by exact ⟨congrArg nI (by have e9 : a = na := (by omega); rw [e9] at hs; exact hs), hFc⟩) dX11_isAsTold_96
      · skip
        refine lv_aload_n hx hb dX11_isAsTold_15 rfl (lv_at hl 0 rfl) ?_
        refine z_get C0 hP (C := RX11) (T := TX11) (N := 11) (ci := 9) (index := 44) (k := 0) (ref := "WetSuitPedalsShoes") (zk_lt (rfl : zk 0 = 9) (by decide)) (zd_9 E (rfl : zk 0 = 9) _) rfl (zmi inU_11) 6 (by decide) (zm flRX11_44) rfl (v := .ref (E.1 48)) (rfl) dX11_isAsTold_16 ?_
        refine lv_aload_n hx hb dX11_isAsTold_19 rfl (lv_at hl 0 rfl) ?_
        refine z_get C0 hP (C := RX11) (T := TX11) (N := 11) (ci := 9) (index := 10) (k := 0) (ref := "WetSuitPedalsShoes") (zk_lt (rfl : zk 0 = 9) (by decide)) (zd_9 E (rfl : zk 0 = 9) _) rfl (zmi inU_11) 0 (by decide) (zm flRX11_10) rfl (v := .ref (E.1 1)) (rfl) dX11_isAsTold_20 ?_
        refine z_get C0 hP (C := RX3) (T := TX3) (N := 3) (ci := 3) (index := 93) (k := 1) (ref := "WetSuitPedalsShoes$Field") (zk_lt (rfl : zk 1 = 3) (by decide)) (zd_3 E (rfl : zk 1 = 3) _) rfl (zmi inU_3) 0 (by decide) (zm flRX11_93) rfl (v := .ref (E.1 2)) (rfl) dX11_isAsTold_23 ?_
        refine lv_aload_n hx hb dX11_isAsTold_26 rfl (lv_at hl 0 rfl) ?_
        refine z_get C0 hP (C := RX11) (T := TX11) (N := 11) (ci := 9) (index := 10) (k := 0) (ref := "WetSuitPedalsShoes") (zk_lt (rfl : zk 0 = 9) (by decide)) (zd_9 E (rfl : zk 0 = 9) _) rfl (zmi inU_11) 0 (by decide) (zm flRX11_10) rfl (v := .ref (E.1 1)) (rfl) dX11_isAsTold_27 ?_
        refine z_get C0 hP (C := RX3) (T := TX3) (N := 3) (ci := 3) (index := 118) (k := 1) (ref := "WetSuitPedalsShoes$Field") (zk_lt (rfl : zk 1 = 3) (by decide)) (zd_3 E (rfl : zk 1 = 3) _) rfl (zmi inU_3) 1 (by decide) (zm flRX11_118) rfl (v := .ref (E.1 6)) (rfl) dX11_isAsTold_30 ?_
        refine lv_iload hx hb dX11_isAsTold_33 (lv_at hl 4 rfl) ?_
        refine z_aald C0 hP (k := 6) (i := a) (rfl : zk 6 = 12) (by omega) rfl dX11_isAsTold_35 (fun at_1 hat_1 => ?_)
        have kat_1 : zIs at_1 tAth := hat_1 ▸ zIs_ath z_lit_Fie_1 (by omega)
        refine z_Vv C0 hP hD hA hS (As := [.ref (E.1 2), .ref (E.1 at_1)]) (rest := []) (k := 48) (c_X10_load l E _ 48 2 at_1 z_lit_Tri_48 z_lit_Cou_2 kat_1 (by omega) (by omega)) (cwV 2 hts (zgV zbw mlRX11_164 imX10_load seX10_load iniRX10 coX10_load) rfl rfl rfl (by decide +kernel) ⟨Nat.le_of_ble_eq_true rfl, Nat.le_of_ble_eq_true rfl⟩) (zk_lt (rfl : zk 48 = 8) (by decide)) (zd_8 E (rfl : zk 48 = 8) _) rfl rfl rfl hl.1 rfl (Nat.le_of_ble_eq_true rfl) dX11_isAsTold_36 ⟨Nat.zero_le _, Nat.zero_le _⟩ (fun G2 H locs hw2 hP hS => ?_)
        obtain ⟨hF2, hmn2, hkf2, hab2, htr2, hdr2⟩ := hw2
        have hTA2 := zTA_load (t := 48) (zFA_fr hR (fun k hk => hFc k (by omega)) hna) hat_1 (by omega) hmn2 hkf2 hab2 htr2
        refine lv_aload_n hx hb dX11_isAsTold_39 rfl (lv_at hl 0 rfl) ?_
        refine z_get C0 hP (C := RX11) (T := TX11) (N := 11) (ci := 9) (index := 44) (k := 0) (ref := "WetSuitPedalsShoes") (zk_lt (rfl : zk 0 = 9) (by decide)) (zd_9 E (rfl : zk 0 = 9) _) rfl (zmi inU_11) 6 (by decide) (zm flRX11_44) rfl (v := .ref (E.1 48)) (rfl) dX11_isAsTold_40 ?_
        refine z_get C0 hP (C := RX10) (T := TX10) (N := 6) (ci := 8) (index := 214) (k := 48) (ref := "WetSuitPedalsShoes$Trial") (zk_lt (rfl : zk 48 = 8) (by decide)) (zd_8 E (rfl : zk 48 = 8) _) rfl (zmi inU_10) 0 (by decide) (zm flRX11_214) rfl (v := .ref (E.1 49)) (rfl) dX11_isAsTold_43 ?_
        refine lv_iload_n hx hb dX11_isAsTold_46 rfl (lv_at hl 1 rfl) ?_
        refine lv_iload_n hx hb dX11_isAsTold_47 rfl (lv_at hl 2 rfl) ?_
        refine lv_iload_n hx hb dX11_isAsTold_48 rfl (lv_at hl 3 rfl) ?_
        refine z_Vv C0 hP hD hA hS (As := [.int (nI i), .int kd, .int fg]) (rest := []) (k := 49) (c_X1_become_ l E _ 49 n i kd fg z_lit_Cou_49 (hTA2.1) (by omega) (by omega)) (cwV 3 hts (zgV zbw mlRX11_130 imX1_become_ seX1_become_ iniRX1 coX1_become_) rfl rfl rfl (by decide +kernel) ⟨Nat.le_of_ble_eq_true rfl, Nat.le_of_ble_eq_true rfl⟩) (zk_lt (rfl : zk 49 = 1) (by decide)) (zd_1 E (rfl : zk 49 = 1) _) rfl rfl rfl hl.1 rfl (Nat.le_of_ble_eq_true rfl) dX11_isAsTold_49 ⟨Nat.zero_le _, Nat.zero_le _⟩ (fun G3 H locs hw3 hP hS => ?_)
        obtain rfl := hw3
        refine lv_aload_n hx hb dX11_isAsTold_52 rfl (lv_at hl 0 rfl) ?_
        refine z_get C0 hP (C := RX11) (T := TX11) (N := 11) (ci := 9) (index := 44) (k := 0) (ref := "WetSuitPedalsShoes") (zk_lt (rfl : zk 0 = 9) (by decide)) (zd_9 E (rfl : zk 0 = 9) _) rfl (zmi inU_11) 6 (by decide) (zm flRX11_44) rfl (v := .ref (E.1 48)) (rfl) dX11_isAsTold_53 ?_
        refine z_Vi C0 hP hD hA hS (As := []) (rest := []) (k := 48) (c_X10_run l E _ 48 n z_lit_Tri_48 ((congrFun ((g1_n (by decide)).trans (g1_n (by decide))) _).trans (hTA2.1)) (by omega)) (cwV 0 hts (zgV zbw mlRX11_168 imX10_run seX10_run iniRX10 coX10_run) rfl rfl rfl (by decide +kernel) ⟨Nat.le_of_ble_eq_true rfl, Nat.le_of_ble_eq_true rfl⟩) (zk_lt (rfl : zk 48 = 8) (by decide)) (zd_8 E (rfl : zk 48 = 8) _) rfl rfl rfl hl.1 rfl (Nat.le_of_ble_eq_true rfl) dX11_isAsTold_56 ⟨Nat.zero_le _, Nat.zero_le _⟩ (fun r4 G4 H locs hw4 hP hS => ?_)
        obtain ⟨hr4, hF4, hrow4⟩ := hw4
        have hTB4 := zTA_bec (t := 48) (i := i) (kd := kd) (fg := fg) hTA2 (by omega) (by omega)
        have h94 := zTA_ran9 hTB4 (zKd_bec hkd hk7) hn10 hr4 hrow4 ((congrFun ((g1_n (by decide)).trans (g1_n (by decide))) _).trans (hdr2))
        refine lv_pop hx hb dX11_isAsTold_59 rfl ?_
        refine lv_bipush (v := (99 : Int32)) hx hb dX11_isAsTold_60 (by decide) ?_
        refine lv_aload_n hx hb dX11_isAsTold_62 rfl (lv_at hl 0 rfl) ?_
        refine z_get C0 hP (C := RX11) (T := TX11) (N := 11) (ci := 9) (index := 44) (k := 0) (ref := "WetSuitPedalsShoes") (zk_lt (rfl : zk 0 = 9) (by decide)) (zd_9 E (rfl : zk 0 = 9) _) rfl (zmi inU_11) 6 (by decide) (zm flRX11_44) rfl (v := .ref (E.1 48)) (rfl) dX11_isAsTold_63 ?_
        refine z_get C0 hP (C := RX10) (T := TX10) (N := 6) (ci := 8) (index := 145) (k := 48) (ref := "WetSuitPedalsShoes$Trial") (zk_lt (rfl : zk 48 = 8) (by decide)) (zd_8 E (rfl : zk 48 = 8) _) rfl (zmi inU_10) 3 (by decide) (zm flRX11_145) rfl (v := .ref (E.1 56)) (rfl) dX11_isAsTold_66 ?_
        refine lv_iload_n hx hb dX11_isAsTold_69 rfl (lv_at hl 1 rfl) ?_
        refine z_iald C0 hP (k := 56) (i := i) (v := (m_sc (upd (upd r (2 + 3 * i) kd) (3 + 3 * i) fg) a (-1) i)) (rfl : zk 56 = 11) (Nat.lt_of_lt_of_eq (show i < 10 by omega) (rfl : zl 56 = 10).symm) rfl dX11_isAsTold_70 ((h94.2 i (by omega)).1) ?_
        refine va_mmin hx hb (C0.2.2.1.trans hl.1.symm) C0.2.2.2.1 (hts _ (zm mlRX11_295)) (hts _ (zm sMath_min)) (hts _ (zm iniMath)) (hts _ (zm coMath_min)) (Nat.le_of_ble_eq_true rfl) (Nat.le_of_ble_eq_true rfl) (Nat.zero_le _) (Nat.zero_le _) dX11_isAsTold_71 ?_
        refine z_eqi (y := (s_mn (99 : Int32) (m_sc (upd (upd r (2 + 3 * i) kd) (3 + 3 * i) fg) a (-1) i))) (by unfold s_mn; congr) ?_
        refine lv_aload_n hx hb dX11_isAsTold_74 rfl (lv_at hl 0 rfl) ?_
        refine z_get C0 hP (C := RX11) (T := TX11) (N := 11) (ci := 9) (index := 33) (k := 0) (ref := "WetSuitPedalsShoes") (zk_lt (rfl : zk 0 = 9) (by decide)) (zd_9 E (rfl : zk 0 = 9) _) rfl (zmi inU_11) 4 (by decide) (zm flRX11_33) rfl (v := .ref (E.1 45)) (rfl) dX11_isAsTold_75 ?_
        refine z_get C0 hP (C := RX8) (T := TX8) (N := 2) (ci := 6) (index := 305) (k := 45) (ref := "WetSuitPedalsShoes$Row") (zk_lt (rfl : zk 45 = 6) (by decide)) (zd_6 E (rfl : zk 45 = 6) _) rfl (zmi inU_8) 1 (by decide) (zm flRX11_305) rfl (v := .ref (E.1 46)) (rfl) dX11_isAsTold_78 ?_
        refine lv_iload hx hb dX11_isAsTold_81 (lv_at hl 4 rfl) ?_
        refine z_iald C0 hP (k := 46) (i := a) (v := (G 46 a)) (rfl : zk 46 = 11) (Nat.lt_of_lt_of_eq (show a < 12 by omega) (rfl : zl 46 = 12).symm) rfl dX11_isAsTold_83 (congrFun ((hF4 _ (by decide)).trans ((g1_n (by decide)).trans ((g1_n (by decide)).trans ((hF2 _ (by decide)).trans (hFc _ (by decide)))))) _) ?_
        refine lv_icmp_eq (tgt := 89) hx hb dX11_isAsTold_84 (by decide) (fun c_84 => ?_) (fun c_84 => ?_)
        · skip
          refine lv_iinc (v := (nI (a + 1))) (lv' := [(4, .int (nI (a + 1))), (0, .ref (E.1 0)), (1, .int (nI i)), (2, .int kd), (3, .int fg)]) hx hb dX11_isAsTold_89 hl (k := 4) rfl (z_inc (by decide)) (by decide) rfl (fun ls hl => ?_)
          refine lv_goto (tgt := 3) hx hb dX11_isAsTold_92 (by decide) ?_
          exact ih_3 (a + 1) G4 _ _ _ (by first | assumption | omega) (by exact fun k hk => (hF4 k (by omega)).trans ((g1_n (by omega)).trans ((g1_n (by omega)).trans ((hF2 k (by omega)).trans (hFc k (by omega)))))) (by exact (s_all_y (decide_eq_true c_84)).trans hs) hP hS (lv_sub hl [1, 2, 3, 4, 0] rfl) (by omega)
        · skip
          refine lv_iconst (v := (0 : Int32)) hx hb dX11_isAsTold_87 (by decide) ?_
          subst hQ_
          exact z_zret C0 hP hS (v := (0 : Int32)) (by decide) (by exact ⟨congrArg nI (s_all_no (show a < na by omega) (fun q => c_84 (of_decide_eq_true q))), fun k hk => (hF4 k (by omega)).trans ((g1_n (by omega)).trans ((g1_n (by omega)).trans ((hF2 k (by omega)).trans (hFc k (by omega)))))⟩) dX11_isAsTold_88
  exact cut_3 (_ + 1) 0 G _ _ _ (by first | assumption | omega) (by exact fun k hk => rfl) (by rfl) hP hS (lv_sub hl [1, 2, 3, 4, 0] rfl) (Nat.lt_succ_self _)
theorem mlRX11_301 : Cond.methodLink RX11 301 yX11_isAsTold ∈ zU := zU_m 721 (by decide +kernel) rfl
theorem coX11_isAsTold : Cond.code yX11_isAsTold cX11_isAsTold 5 (some .boolean) ∈ zU := zU_m 724 (by decide +kernel) rfl
theorem imX11_isAsTold : Cond.instanceMethod yX11_isAsTold ∈ zU := zU_m 723 (by decide +kernel) rfl
theorem seX11_isAsTold : Cond.selects RX11 yX11_isAsTold yX11_isAsTold ∈ zU := zU_m 23 (by decide +kernel) rfl
set_option maxHeartbeats 4000000 in
set_option maxRecDepth 100000 in
theorem c_X11_kindsAsTold (l : Launch) (E : zE) (G : zG) (r : Nat → Int32) (n na i : Nat) (hR : zFA G 1 r n na) (hkd : zKd r n) (hn10 : n ≤ 10) (hna : na ≤ 5) (hi : i < n) : zMi l yX11_kindsAsTold wsX11_kindsAsTold ({ frames := 5, cells := 0, slots := 0, locals := 114 } : Room) E G [.ref (E.1 0), .int (nI i)] (fun r1 G1 => q_was r na i (G 46) 0 = r1 ∧ ∀ k, (k < 48 ∨ 58 < k) → G1 k = G k) := by
  refine zOf (cc := cX11_kindsAsTold) (nL := 4) (ret := (some .int)) RX11 (by decide) rfl rfl (Nat.le_of_ble_eq_true rfl) ?_
  intro p_ e_ s_ m_ a_ b_ me_ c_ ls C0 hP hS hl
  have hx := C0.1
  have hb := C0.2.1
  have hts := C0.2.2.2.2.1
  have hD : zD E (zA E s_.heap.size) := C0.2.2.2.2.2.2.2.2
  have hA : ∀ q : Nat, s_.heap.size ≤ q → zA E s_.heap.size q := fun q h => Or.inr h
  refine z_gen (fun Q_ hQ_ => ?_)
  have hl : lv_has ls 4 [(0, .ref (E.1 0)), (1, .int (nI i))] := hl
  refine lv_iconst (v := (0 : Int32)) hx hb dX11_kindsAsTold_0 (by decide) ?_
  refine lv_istore_n (lv' := [(2, .int (0 : Int32)), (0, .ref (E.1 0)), (1, .int (nI i))]) hx hb dX11_kindsAsTold_1 rfl hl (by decide) rfl (fun ls hl => ?_)
  refine lv_iconst (v := (0 : Int32)) hx hb dX11_kindsAsTold_2 (by decide) ?_
  refine lv_istore_n (lv' := [(3, .int (0 : Int32)), (2, .int (0 : Int32)), (0, .ref (E.1 0)), (1, .int (nI i))]) hx hb dX11_kindsAsTold_3 rfl hl (by decide) rfl (fun ls hl => ?_)
  have cut_4 : ∀ (fuel : Nat), ∀ (k : Nat) (st_ : Int32) (Gc : zG) (H : Heap) (locs : List Loc) (ls : Array Slot), (k ≤ 7) → (∀ k, (k < 48 ∨ 58 < k) → Gc k = G k) → (st_ = b_set (q_wp r na i (G 46) 0) k) → zP E Gc H → va_S (zA E s_.heap.size) s_.heap H locs → lv_has ls 4 [(0, .ref (E.1 0)), (1, .int (nI i)), (2, .int st_), (3, .int (nI k))] → 7 - k < fuel → W p_ l e_ ({ frames := 5, cells := 0, slots := 0, locals := 114 } : Room) s_ m_ a_ b_ me_ c_ H locs 0 0 Q_ (F0 m_ 4 ls []) := by
    intro fuel
    induction fuel with
    | zero =>
      intro k  st_  Gc  H locs ls hk hFc hst hP hS hl hfu
      exact absurd hfu (Nat.not_lt_zero _)
    | succ fuel ih_4 =>
      intro k  st_  Gc  H locs ls hk hFc hst hP hS hl hfu_4
      refine lv_iload_n hx hb dX11_kindsAsTold_4 rfl (lv_at hl 3 rfl) ?_
      refine lv_bipush (v := (7 : Int32)) hx hb dX11_kindsAsTold_5 (by decide) ?_
      refine z_N_ge hx hb (a := k) (b := 7) (tgt := 43) dX11_kindsAsTold_7 rfl rfl (by omega) (by omega) (by decide) (fun c_7 => ?_) (fun c_7 => ?_)
      · skip
        refine lv_iload_n hx hb dX11_kindsAsTold_43 rfl (lv_at hl 2 rfl) ?_
        subst hQ_
        exact z_iret C0 hP hS (v := st_) (by exact ⟨by unfold q_was; rw [hst, show k = 7 + 3 * 0 by omega], hFc⟩) dX11_kindsAsTold_44
      · skip
        refine lv_aload_n hx hb dX11_kindsAsTold_10 rfl (lv_at hl 0 rfl) ?_
        refine lv_iload_n hx hb dX11_kindsAsTold_11 rfl (lv_at hl 1 rfl) ?_
        refine lv_iload_n hx hb dX11_kindsAsTold_12 rfl (lv_at hl 3 rfl) ?_
        refine lv_aload_n hx hb dX11_kindsAsTold_13 rfl (lv_at hl 0 rfl) ?_
        refine z_get C0 hP (C := RX11) (T := TX11) (N := 11) (ci := 9) (index := 10) (k := 0) (ref := "WetSuitPedalsShoes") (zk_lt (rfl : zk 0 = 9) (by decide)) (zd_9 E (rfl : zk 0 = 9) _) rfl (zmi inU_11) 0 (by decide) (zm flRX11_10) rfl (v := .ref (E.1 1)) (rfl) dX11_kindsAsTold_14 ?_
        refine z_get C0 hP (C := RX3) (T := TX3) (N := 3) (ci := 3) (index := 93) (k := 1) (ref := "WetSuitPedalsShoes$Field") (zk_lt (rfl : zk 1 = 3) (by decide)) (zd_3 E (rfl : zk 1 = 3) _) rfl (zmi inU_3) 0 (by decide) (zm flRX11_93) rfl (v := .ref (E.1 2)) (rfl) dX11_kindsAsTold_17 ?_
        refine z_get C0 hP (C := RX1) (T := TX1) (N := 4) (ci := 1) (index := 106) (k := 2) (ref := "WetSuitPedalsShoes$Course") (zk_lt (rfl : zk 2 = 1) (by decide)) (zd_1 E (rfl : zk 2 = 1) _) rfl (zmi inU_1) 2 (by decide) (zm flRX11_106) rfl (v := .ref (E.1 4)) (rfl) dX11_kindsAsTold_20 ?_
        refine lv_iload_n hx hb dX11_kindsAsTold_23 rfl (lv_at hl 1 rfl) ?_
        refine z_iald C0 hP (k := 4) (i := i) (v := (r (3 + 3 * i))) (rfl : zk 4 = 11) (Nat.lt_of_lt_of_eq (show i < 10 by omega) (rfl : zl 4 = 10).symm) rfl dX11_kindsAsTold_24 ((congrFun (hFc _ (by decide)) _).trans ((hR.2.2.1 i (by omega)).2.1)) ?_
        refine z_Vi C0 hP hD hA hS (As := [.int (nI i), .int (nI k), .int (r (3 + 3 * i))]) (rest := []) (k := 0) (c_X11_isAsTold l E _ r n na i (nI k) (r (3 + 3 * i)) (zFA_fr hR (fun k hk => hFc k (by omega)) hna) hkd hn10 hna (by omega) ⟨k, by omega, rfl⟩) (cwV 3 hts (zgV zbw mlRX11_301 imX11_isAsTold seX11_isAsTold iniRX11 coX11_isAsTold) rfl rfl rfl (by decide +kernel) ⟨Nat.le_of_ble_eq_true rfl, Nat.le_of_ble_eq_true rfl⟩) (zk_lt (rfl : zk 0 = 9) (by decide)) (zd_9 E (rfl : zk 0 = 9) _) rfl rfl rfl hl.1 rfl (Nat.le_of_ble_eq_true rfl) dX11_kindsAsTold_25 ⟨Nat.zero_le _, Nat.zero_le _⟩ (fun r1 G1 H locs hw1 hP hS => ?_)
        obtain ⟨hr1, hF1⟩ := hw1
        have hr1 : nI (q_tl (upd r (2 + 3 * i + 0) (nI k)) i na (G 46)) = _ := (congrArg nI (by rw [upd_kd, show Gc 46 = G 46 from hFc _ (by decide)] : q_tl (upd (upd r (2 + 3 * i) (nI k)) (3 + 3 * i) (r (3 + 3 * i))) i na (Gc 46) = q_tl (upd r (2 + 3 * i + 0) (nI k)) i na (G 46))).symm.trans hr1
        subst hr1
        refine z_0_eq hx hb (a := q_tl (upd r (2 + 3 * i + 0) (nI k)) i na (G 46)) (tgt := 37) dX11_kindsAsTold_28 rfl (by (have h9 := q_tl_le (upd r (2 + 3 * i + 0) (nI k)) i na (G 46); omega)) (by decide) (fun c_28 => ?_) (fun c_28 => ?_)
        · skip
          refine lv_iinc (v := (nI (k + 1))) (lv' := [(3, .int (nI (k + 1))), (0, .ref (E.1 0)), (1, .int (nI i)), (2, .int st_)]) hx hb dX11_kindsAsTold_37 hl (k := 3) rfl (z_inc (by decide)) (by decide) rfl (fun ls hl => ?_)
          refine lv_goto (tgt := 4) hx hb dX11_kindsAsTold_40 (by decide) ?_
          exact ih_4 (k + 1) st_ G1 _ _ _ (by first | assumption | omega) (by exact fun k hk => (hF1 k (by omega)).trans (hFc k (by omega))) (by exact hst.trans (b_set_n (fun q => by have := of_decide_eq_true q; omega)).symm) hP hS (lv_sub hl [1, 2, 3, 0] rfl) (by omega)
        · skip
          refine lv_iload_n hx hb dX11_kindsAsTold_31 rfl (lv_at hl 2 rfl) ?_
          refine lv_iconst (v := (1 : Int32)) hx hb dX11_kindsAsTold_32 (by decide) ?_
          refine lv_iload_n hx hb dX11_kindsAsTold_33 rfl (lv_at hl 3 rfl) ?_
          refine lv_ishl hx hb dX11_kindsAsTold_34 ?_
          refine lv_ior hx hb dX11_kindsAsTold_35 ?_
          refine lv_istore_n (lv' := [(2, .int (st_ ||| ((1 : Int32) <<< ((nI k) &&& 31)))), (0, .ref (E.1 0)), (1, .int (nI i)), (3, .int (nI k))]) hx hb dX11_kindsAsTold_36 rfl hl (by decide) rfl (fun ls hl => ?_)
          refine lv_iinc (v := (nI (k + 1))) (lv' := [(3, .int (nI (k + 1))), (2, .int (st_ ||| ((1 : Int32) <<< ((nI k) &&& 31)))), (0, .ref (E.1 0)), (1, .int (nI i))]) hx hb dX11_kindsAsTold_37 hl (k := 3) rfl (z_inc (by decide)) (by decide) rfl (fun ls hl => ?_)
          refine lv_goto (tgt := 4) hx hb dX11_kindsAsTold_40 (by decide) ?_
          exact ih_4 (k + 1) (st_ ||| ((1 : Int32) <<< ((nI k) &&& 31))) G1 _ _ _ (by first | assumption | omega) (by exact fun k hk => (hF1 k (by omega)).trans (hFc k (by omega))) (by exact (congrArg (fun z => z ||| _) hst).trans (b_set_y (decide_eq_true (by have h9 := q_tl_le (upd r (2 + 3 * i + 0) (nI k)) i na (G 46); omega))).symm) hP hS (lv_sub hl [2, 3, 1, 0] rfl) (by omega)
  exact cut_4 (_ + 1) 0 (0 : Int32) G _ _ _ (by first | assumption | omega) (by exact fun k hk => rfl) (by rfl) hP hS (lv_sub hl [2, 3, 1, 0] rfl) (Nat.lt_succ_self _)
set_option maxHeartbeats 4000000 in
set_option maxRecDepth 100000 in
theorem c_X11_figuresAsTold (l : Launch) (E : zE) (G : zG) (r : Nat → Int32) (n na i : Nat) (hR : zFA G 1 r n na) (hkd : zKd r n) (hn10 : n ≤ 10) (hna : na ≤ 5) (hi : i < n) : zMi l yX11_figuresAsTold wsX11_figuresAsTold ({ frames := 5, cells := 0, slots := 0, locals := 114 } : Room) E G [.ref (E.1 0), .int (nI i)] (fun r1 G1 => q_was r na i (G 46) 1 = r1 ∧ ∀ k, (k < 48 ∨ 58 < k) → G1 k = G k) := by
  refine zOf (cc := cX11_figuresAsTold) (nL := 4) (ret := (some .int)) RX11 (by decide) rfl rfl (Nat.le_of_ble_eq_true rfl) ?_
  intro p_ e_ s_ m_ a_ b_ me_ c_ ls C0 hP hS hl
  have hx := C0.1
  have hb := C0.2.1
  have hts := C0.2.2.2.2.1
  have hD : zD E (zA E s_.heap.size) := C0.2.2.2.2.2.2.2.2
  have hA : ∀ q : Nat, s_.heap.size ≤ q → zA E s_.heap.size q := fun q h => Or.inr h
  refine z_gen (fun Q_ hQ_ => ?_)
  have hl : lv_has ls 4 [(0, .ref (E.1 0)), (1, .int (nI i))] := hl
  refine lv_iconst (v := (0 : Int32)) hx hb dX11_figuresAsTold_0 (by decide) ?_
  refine lv_istore_n (lv' := [(2, .int (0 : Int32)), (0, .ref (E.1 0)), (1, .int (nI i))]) hx hb dX11_figuresAsTold_1 rfl hl (by decide) rfl (fun ls hl => ?_)
  refine lv_iconst (v := (0 : Int32)) hx hb dX11_figuresAsTold_2 (by decide) ?_
  refine lv_istore_n (lv' := [(3, .int (0 : Int32)), (2, .int (0 : Int32)), (0, .ref (E.1 0)), (1, .int (nI i))]) hx hb dX11_figuresAsTold_3 rfl hl (by decide) rfl (fun ls hl => ?_)
  have cut_4 : ∀ (fuel : Nat), ∀ (k : Nat) (st_ : Int32) (Gc : zG) (H : Heap) (locs : List Loc) (ls : Array Slot), (k ≤ 10) → (∀ k, (k < 48 ∨ 58 < k) → Gc k = G k) → (st_ = b_set (q_wp r na i (G 46) 1) k) → zP E Gc H → va_S (zA E s_.heap.size) s_.heap H locs → lv_has ls 4 [(0, .ref (E.1 0)), (1, .int (nI i)), (2, .int st_), (3, .int (nI k))] → 10 - k < fuel → W p_ l e_ ({ frames := 5, cells := 0, slots := 0, locals := 114 } : Room) s_ m_ a_ b_ me_ c_ H locs 0 0 Q_ (F0 m_ 4 ls []) := by
    intro fuel
    induction fuel with
    | zero =>
      intro k  st_  Gc  H locs ls hk hFc hst hP hS hl hfu
      exact absurd hfu (Nat.not_lt_zero _)
    | succ fuel ih_4 =>
      intro k  st_  Gc  H locs ls hk hFc hst hP hS hl hfu_4
      refine lv_iload_n hx hb dX11_figuresAsTold_4 rfl (lv_at hl 3 rfl) ?_
      refine lv_bipush (v := (9 : Int32)) hx hb dX11_figuresAsTold_5 (by decide) ?_
      refine z_N_gt hx hb (a := k) (b := 9) (tgt := 43) dX11_figuresAsTold_7 rfl rfl (by omega) (by omega) (by decide) (fun c_7 => ?_) (fun c_7 => ?_)
      · skip
        refine lv_iload_n hx hb dX11_figuresAsTold_43 rfl (lv_at hl 2 rfl) ?_
        subst hQ_
        exact z_iret C0 hP hS (v := st_) (by exact ⟨by unfold q_was; rw [hst, show k = 7 + 3 * 1 by omega], hFc⟩) dX11_figuresAsTold_44
      · skip
        refine lv_aload_n hx hb dX11_figuresAsTold_10 rfl (lv_at hl 0 rfl) ?_
        refine lv_iload_n hx hb dX11_figuresAsTold_11 rfl (lv_at hl 1 rfl) ?_
        refine lv_aload_n hx hb dX11_figuresAsTold_12 rfl (lv_at hl 0 rfl) ?_
        refine z_get C0 hP (C := RX11) (T := TX11) (N := 11) (ci := 9) (index := 10) (k := 0) (ref := "WetSuitPedalsShoes") (zk_lt (rfl : zk 0 = 9) (by decide)) (zd_9 E (rfl : zk 0 = 9) _) rfl (zmi inU_11) 0 (by decide) (zm flRX11_10) rfl (v := .ref (E.1 1)) (rfl) dX11_figuresAsTold_13 ?_
        refine z_get C0 hP (C := RX3) (T := TX3) (N := 3) (ci := 3) (index := 93) (k := 1) (ref := "WetSuitPedalsShoes$Field") (zk_lt (rfl : zk 1 = 3) (by decide)) (zd_3 E (rfl : zk 1 = 3) _) rfl (zmi inU_3) 0 (by decide) (zm flRX11_93) rfl (v := .ref (E.1 2)) (rfl) dX11_figuresAsTold_16 ?_
        refine z_get C0 hP (C := RX1) (T := TX1) (N := 4) (ci := 1) (index := 103) (k := 2) (ref := "WetSuitPedalsShoes$Course") (zk_lt (rfl : zk 2 = 1) (by decide)) (zd_1 E (rfl : zk 2 = 1) _) rfl (zmi inU_1) 1 (by decide) (zm flRX11_103) rfl (v := .ref (E.1 3)) (rfl) dX11_figuresAsTold_19 ?_
        refine lv_iload_n hx hb dX11_figuresAsTold_22 rfl (lv_at hl 1 rfl) ?_
        refine z_iald C0 hP (k := 3) (i := i) (v := (r (2 + 3 * i))) (rfl : zk 3 = 11) (Nat.lt_of_lt_of_eq (show i < 10 by omega) (rfl : zl 3 = 10).symm) rfl dX11_figuresAsTold_23 ((congrFun (hFc _ (by decide)) _).trans ((hR.2.2.1 i (by omega)).1)) ?_
        refine lv_iload_n hx hb dX11_figuresAsTold_24 rfl (lv_at hl 3 rfl) ?_
        refine z_Vi C0 hP hD hA hS (As := [.int (nI i), .int (r (2 + 3 * i)), .int (nI k)]) (rest := []) (k := 0) (c_X11_isAsTold l E _ r n na i (r (2 + 3 * i)) (nI k) (zFA_fr hR (fun k hk => hFc k (by omega)) hna) hkd hn10 hna (by omega) (hkd i (by omega))) (cwV 3 hts (zgV zbw mlRX11_301 imX11_isAsTold seX11_isAsTold iniRX11 coX11_isAsTold) rfl rfl rfl (by decide +kernel) ⟨Nat.le_of_ble_eq_true rfl, Nat.le_of_ble_eq_true rfl⟩) (zk_lt (rfl : zk 0 = 9) (by decide)) (zd_9 E (rfl : zk 0 = 9) _) rfl rfl rfl hl.1 rfl (Nat.le_of_ble_eq_true rfl) dX11_figuresAsTold_25 ⟨Nat.zero_le _, Nat.zero_le _⟩ (fun r1 G1 H locs hw1 hP hS => ?_)
        obtain ⟨hr1, hF1⟩ := hw1
        have hr1 : nI (q_tl (upd r (2 + 3 * i + 1) (nI k)) i na (G 46)) = _ := (congrArg nI (by rw [upd_fg, show Gc 46 = G 46 from hFc _ (by decide)] : q_tl (upd (upd r (2 + 3 * i) (r (2 + 3 * i))) (3 + 3 * i) (nI k)) i na (Gc 46) = q_tl (upd r (2 + 3 * i + 1) (nI k)) i na (G 46))).symm.trans hr1
        subst hr1
        refine z_0_eq hx hb (a := q_tl (upd r (2 + 3 * i + 1) (nI k)) i na (G 46)) (tgt := 37) dX11_figuresAsTold_28 rfl (by (have h9 := q_tl_le (upd r (2 + 3 * i + 1) (nI k)) i na (G 46); omega)) (by decide) (fun c_28 => ?_) (fun c_28 => ?_)
        · skip
          refine lv_iinc (v := (nI (k + 1))) (lv' := [(3, .int (nI (k + 1))), (0, .ref (E.1 0)), (1, .int (nI i)), (2, .int st_)]) hx hb dX11_figuresAsTold_37 hl (k := 3) rfl (z_inc (by decide)) (by decide) rfl (fun ls hl => ?_)
          refine lv_goto (tgt := 4) hx hb dX11_figuresAsTold_40 (by decide) ?_
          exact ih_4 (k + 1) st_ G1 _ _ _ (by first | assumption | omega) (by exact fun k hk => (hF1 k (by omega)).trans (hFc k (by omega))) (by exact hst.trans (b_set_n (fun q => by have := of_decide_eq_true q; omega)).symm) hP hS (lv_sub hl [1, 2, 3, 0] rfl) (by omega)
        · skip
          refine lv_iload_n hx hb dX11_figuresAsTold_31 rfl (lv_at hl 2 rfl) ?_
          refine lv_iconst (v := (1 : Int32)) hx hb dX11_figuresAsTold_32 (by decide) ?_
          refine lv_iload_n hx hb dX11_figuresAsTold_33 rfl (lv_at hl 3 rfl) ?_
          refine lv_ishl hx hb dX11_figuresAsTold_34 ?_
          refine lv_ior hx hb dX11_figuresAsTold_35 ?_
          refine lv_istore_n (lv' := [(2, .int (st_ ||| ((1 : Int32) <<< ((nI k) &&& 31)))), (0, .ref (E.1 0)), (1, .int (nI i)), (3, .int (nI k))]) hx hb dX11_figuresAsTold_36 rfl hl (by decide) rfl (fun ls hl => ?_)
          refine lv_iinc (v := (nI (k + 1))) (lv' := [(3, .int (nI (k + 1))), (2, .int (st_ ||| ((1 : Int32) <<< ((nI k) &&& 31)))), (0, .ref (E.1 0)), (1, .int (nI i))]) hx hb dX11_figuresAsTold_37 hl (k := 3) rfl (z_inc (by decide)) (by decide) rfl (fun ls hl => ?_)
          refine lv_goto (tgt := 4) hx hb dX11_figuresAsTold_40 (by decide) ?_
          exact ih_4 (k + 1) (st_ ||| ((1 : Int32) <<< ((nI k) &&& 31))) G1 _ _ _ (by first | assumption | omega) (by exact fun k hk => (hF1 k (by omega)).trans (hFc k (by omega))) (by exact (congrArg (fun z => z ||| _) hst).trans (b_set_y (decide_eq_true (by have h9 := q_tl_le (upd r (2 + 3 * i + 1) (nI k)) i na (G 46); omega))).symm) hP hS (lv_sub hl [2, 3, 1, 0] rfl) (by omega)
  exact cut_4 (_ + 1) 0 (0 : Int32) G _ _ _ (by first | assumption | omega) (by exact fun k hk => rfl) (by rfl) hP hS (lv_sub hl [2, 3, 1, 0] rfl) (Nat.lt_succ_self _)
theorem mlRX11_258 : Cond.methodLink RX11 258 yX11_figuresAsTold ∈ zU := zU_m 725 (by decide +kernel) rfl
theorem coX11_figuresAsTold : Cond.code yX11_figuresAsTold cX11_figuresAsTold 4 (some .int) ∈ zU := zU_m 728 (by decide +kernel) rfl
theorem imX11_figuresAsTold : Cond.instanceMethod yX11_figuresAsTold ∈ zU := zU_m 727 (by decide +kernel) rfl
theorem seX11_figuresAsTold : Cond.selects RX11 yX11_figuresAsTold yX11_figuresAsTold ∈ zU := zU_m 24 (by decide +kernel) rfl
theorem mlRX11_255 : Cond.methodLink RX11 255 yX11_kindsAsTold ∈ zU := zU_m 717 (by decide +kernel) rfl
theorem coX11_kindsAsTold : Cond.code yX11_kindsAsTold cX11_kindsAsTold 4 (some .int) ∈ zU := zU_m 720 (by decide +kernel) rfl
theorem imX11_kindsAsTold : Cond.instanceMethod yX11_kindsAsTold ∈ zU := zU_m 719 (by decide +kernel) rfl
theorem seX11_kindsAsTold : Cond.selects RX11 yX11_kindsAsTold yX11_kindsAsTold ∈ zU := zU_m 22 (by decide +kernel) rfl
set_option maxHeartbeats 4000000 in
set_option maxRecDepth 100000 in
theorem c_X11_whatWas (l : Launch) (E : zE) (G : zG) (r : Nat → Int32) (n na : Nat) (sect what : Int32) (hR : zFA G 1 r n na) (hn10 : n ≤ 10) (hna : na ≤ 5) (hp : zPl G) (hkd : zKd r n) : zMi l yX11_whatWas wsX11_whatWas ({ frames := 6, cells := 0, slots := 0, locals := 137 } : Room) E G [.ref (E.1 0), .int sect, .int what] (fun r1 G1 => zQc (A_was r n na (G 45 0) (G 46) sect what) G r1 G1) := by
  refine zOf (cc := cX11_whatWas) (nL := 3) (ret := (some .int)) RX11 (by decide) rfl rfl (Nat.le_of_ble_eq_true rfl) ?_
  intro p_ e_ s_ m_ a_ b_ me_ c_ ls C0 hP hS hl
  have hx := C0.1
  have hb := C0.2.1
  have hts := C0.2.2.2.2.1
  have hD : zD E (zA E s_.heap.size) := C0.2.2.2.2.2.2.2.2
  have hA : ∀ q : Nat, s_.heap.size ≤ q → zA E s_.heap.size q := fun q h => Or.inr h
  refine z_gen (fun Q_ hQ_ => ?_)
  have hl : lv_has ls 3 [(0, .ref (E.1 0)), (1, .int sect), (2, .int what)] := hl
  refine lv_aload_n hx hb dX11_whatWas_0 rfl (lv_at hl 0 rfl) ?_
  refine z_get C0 hP (C := RX11) (T := TX11) (N := 11) (ci := 9) (index := 10) (k := 0) (ref := "WetSuitPedalsShoes") (zk_lt (rfl : zk 0 = 9) (by decide)) (zd_9 E (rfl : zk 0 = 9) _) rfl (zmi inU_11) 0 (by decide) (zm flRX11_10) rfl (v := .ref (E.1 1)) (rfl) dX11_whatWas_1 ?_
  refine z_get C0 hP (C := RX3) (T := TX3) (N := 3) (ci := 3) (index := 93) (k := 1) (ref := "WetSuitPedalsShoes$Field") (zk_lt (rfl : zk 1 = 3) (by decide)) (zd_3 E (rfl : zk 1 = 3) _) rfl (zmi inU_3) 0 (by decide) (zm flRX11_93) rfl (v := .ref (E.1 2)) (rfl) dX11_whatWas_4 ?_
  refine lv_iload_n hx hb dX11_whatWas_7 rfl (lv_at hl 1 rfl) ?_
  refine z_Vi C0 hP hD hA hS (As := [.int sect]) (rest := []) (k := 2) (c_X1_has l E _ 2 n sect z_lit_Cou_2 (hR.1) (by omega)) (cwV 1 hts (zgV zbw mlRX11_97 imX1_has seX1_has iniRX1 coX1_has) rfl rfl rfl (by decide +kernel) ⟨Nat.le_of_ble_eq_true rfl, Nat.le_of_ble_eq_true rfl⟩) (zk_lt (rfl : zk 2 = 1) (by decide)) (zd_1 E (rfl : zk 2 = 1) _) rfl rfl rfl hl.1 rfl (Nat.le_of_ble_eq_true rfl) dX11_whatWas_8 ⟨Nat.zero_le _, Nat.zero_le _⟩ (fun r1 G1 H locs hw1 hP hS => ?_)
  rcases hw1 with ⟨rfl, rfl, is, his, rfl⟩ | ⟨rfl, rfl, hno1⟩
  · skip
    have hz_is := zin_t his (by omega)
    have hy_is : zix (nI is) = is := zix_n (by omega)
    refine lv_if_ne (tgt := 20) hx hb dX11_whatWas_11 (by decide) (fun _ => ?_) (fun h_ => absurd h_ (by decide))
    refine lv_iload_n hx hb dX11_whatWas_20 rfl (lv_at hl 2 rfl) ?_
    refine lv_if_lt (tgt := 29) hx hb dX11_whatWas_21 (by decide) (fun c_21 => ?_) (fun c_21 => ?_)
    · skip
      refine lv_aload_n hx hb dX11_whatWas_29 rfl (lv_at hl 0 rfl) ?_
      refine lv_bipush (v := (-2 : Int32)) hx hb dX11_whatWas_30 (by decide) ?_
      refine z_Vi C0 hP hD hA hS (As := [.int (-2 : Int32)]) (rest := []) (k := 0) (c_X11_refuse l E _ (-2 : Int32) 2 (by decide) (by decide) (by decide)) (cwV 1 hts (zgV zbw mlRX11_72 imX11_refuse seX11_refuse iniRX11 coX11_refuse) rfl rfl rfl (by decide +kernel) ⟨Nat.le_of_ble_eq_true rfl, Nat.le_of_ble_eq_true rfl⟩) (zk_lt (rfl : zk 0 = 9) (by decide)) (zd_9 E (rfl : zk 0 = 9) _) rfl rfl rfl hl.1 rfl (Nat.le_of_ble_eq_true rfl) dX11_whatWas_32 ⟨Nat.zero_le _, Nat.zero_le _⟩ (fun r2 G2 H locs hw2 hP hS => ?_)
      obtain ⟨rfl, rfl⟩ := hw2
      subst hQ_
      exact z_iret C0 hP hS (v := (-2 : Int32)) (by exact zQc_of (k := 2) (by simp [A_was, hz_is, hy_is, c_21]) (fun k hk => g1_n (by omega)) (g1_s _ _ _) (z_plk (g1_n (by decide)) hp)) dX11_whatWas_35
    · skip
      refine lv_iload_n hx hb dX11_whatWas_24 rfl (lv_at hl 2 rfl) ?_
      refine lv_iconst (v := (1 : Int32)) hx hb dX11_whatWas_25 (by decide) ?_
      refine lv_icmp_le (tgt := 36) hx hb dX11_whatWas_26 (by decide) (fun c_26 => ?_) (fun c_26 => ?_)
      · skip
        have d_26 := Int32.not_lt.mpr c_26
        refine lv_aload_n hx hb dX11_whatWas_36 rfl (lv_at hl 0 rfl) ?_
        refine z_get C0 hP (C := RX11) (T := TX11) (N := 11) (ci := 9) (index := 33) (k := 0) (ref := "WetSuitPedalsShoes") (zk_lt (rfl : zk 0 = 9) (by decide)) (zd_9 E (rfl : zk 0 = 9) _) rfl (zmi inU_11) 4 (by decide) (zm flRX11_33) rfl (v := .ref (E.1 45)) (rfl) dX11_whatWas_37 ?_
        refine z_get C0 hP (C := RX8) (T := TX8) (N := 2) (ci := 6) (index := 254) (k := 45) (ref := "WetSuitPedalsShoes$Row") (zk_lt (rfl : zk 45 = 6) (by decide)) (zd_6 E (rfl : zk 45 = 6) _) rfl (zmi inU_8) 0 (by decide) (zm flRX11_254) rfl (v := .int (G 45 0)) (rfl) dX11_whatWas_40 ?_
        refine lv_aload_n hx hb dX11_whatWas_43 rfl (lv_at hl 0 rfl) ?_
        refine z_get C0 hP (C := RX11) (T := TX11) (N := 11) (ci := 9) (index := 10) (k := 0) (ref := "WetSuitPedalsShoes") (zk_lt (rfl : zk 0 = 9) (by decide)) (zd_9 E (rfl : zk 0 = 9) _) rfl (zmi inU_11) 0 (by decide) (zm flRX11_10) rfl (v := .ref (E.1 1)) (rfl) dX11_whatWas_44 ?_
        refine z_get C0 hP (C := RX3) (T := TX3) (N := 3) (ci := 3) (index := 241) (k := 1) (ref := "WetSuitPedalsShoes$Field") (zk_lt (rfl : zk 1 = 3) (by decide)) (zd_3 E (rfl : zk 1 = 3) _) rfl (zmi inU_3) 2 (by decide) (zm flRX11_241) rfl (v := .int (nI na)) (congrArg (fun z => some (Value.int z)) (hR.2.1)) dX11_whatWas_47 ?_
        refine lv_icmp_eq (tgt := 60) hx hb dX11_whatWas_50 (by decide) (fun c_50 => ?_) (fun c_50 => ?_)
        · skip
          refine lv_iload_n hx hb dX11_whatWas_60 rfl (lv_at hl 2 rfl) ?_
          refine lv_if_ne (tgt := 72) hx hb dX11_whatWas_61 (by decide) (fun c_61 => ?_) (fun c_61 => ?_)
          · skip
            refine lv_aload_n hx hb dX11_whatWas_72 rfl (lv_at hl 0 rfl) ?_
            refine lv_iload_n hx hb dX11_whatWas_73 rfl (lv_at hl 1 rfl) ?_
            refine z_Vi C0 hP hD hA hS (As := [.int (nI is)]) (rest := []) (k := 0) (c_X11_figuresAsTold l E _ r n na is hR hkd hn10 hna (by omega)) (cwV 1 hts (zgV zbw mlRX11_258 imX11_figuresAsTold seX11_figuresAsTold iniRX11 coX11_figuresAsTold) rfl rfl rfl (by decide +kernel) ⟨Nat.le_of_ble_eq_true rfl, Nat.le_of_ble_eq_true rfl⟩) (zk_lt (rfl : zk 0 = 9) (by decide)) (zd_9 E (rfl : zk 0 = 9) _) rfl rfl rfl hl.1 rfl (Nat.le_of_ble_eq_true rfl) dX11_whatWas_74 ⟨Nat.zero_le _, Nat.zero_le _⟩ (fun r3 G3 H locs hw3 hP hS => ?_)
            obtain ⟨hr3, hF3⟩ := hw3
            subst hr3
            subst hQ_
            exact z_iret C0 hP hS (v := (q_was r na is (G 46) 1)) (by exact zQc_of (k := 0) (by simp [A_was, hz_is, hy_is, c_21, d_26, c_50, c_61]) (fun k hk => hF3 k (by omega)) (hF3 _ (by decide)) (z_plk (hF3 _ (by decide)) hp)) dX11_whatWas_77
          · skip
            refine lv_aload_n hx hb dX11_whatWas_64 rfl (lv_at hl 0 rfl) ?_
            refine lv_iload_n hx hb dX11_whatWas_65 rfl (lv_at hl 1 rfl) ?_
            refine z_Vi C0 hP hD hA hS (As := [.int (nI is)]) (rest := []) (k := 0) (c_X11_kindsAsTold l E _ r n na is hR hkd hn10 hna (by omega)) (cwV 1 hts (zgV zbw mlRX11_255 imX11_kindsAsTold seX11_kindsAsTold iniRX11 coX11_kindsAsTold) rfl rfl rfl (by decide +kernel) ⟨Nat.le_of_ble_eq_true rfl, Nat.le_of_ble_eq_true rfl⟩) (zk_lt (rfl : zk 0 = 9) (by decide)) (zd_9 E (rfl : zk 0 = 9) _) rfl rfl rfl hl.1 rfl (Nat.le_of_ble_eq_true rfl) dX11_whatWas_66 ⟨Nat.zero_le _, Nat.zero_le _⟩ (fun r4 G4 H locs hw4 hP hS => ?_)
            obtain ⟨hr4, hF4⟩ := hw4
            subst hr4
            refine lv_goto (tgt := 77) hx hb dX11_whatWas_69 (by decide) ?_
            subst hQ_
            exact z_iret C0 hP hS (v := (q_was r na is (G 46) 0)) (by exact zQc_of (k := 0) (by simp [A_was, hz_is, hy_is, c_21, d_26, c_50, c_61]) (fun k hk => hF4 k (by omega)) (hF4 _ (by decide)) (z_plk (hF4 _ (by decide)) hp)) dX11_whatWas_77
        · skip
          refine lv_aload_n hx hb dX11_whatWas_53 rfl (lv_at hl 0 rfl) ?_
          refine lv_bipush (v := (-3 : Int32)) hx hb dX11_whatWas_54 (by decide) ?_
          refine z_Vi C0 hP hD hA hS (As := [.int (-3 : Int32)]) (rest := []) (k := 0) (c_X11_refuse l E _ (-3 : Int32) 3 (by decide) (by decide) (by decide)) (cwV 1 hts (zgV zbw mlRX11_72 imX11_refuse seX11_refuse iniRX11 coX11_refuse) rfl rfl rfl (by decide +kernel) ⟨Nat.le_of_ble_eq_true rfl, Nat.le_of_ble_eq_true rfl⟩) (zk_lt (rfl : zk 0 = 9) (by decide)) (zd_9 E (rfl : zk 0 = 9) _) rfl rfl rfl hl.1 rfl (Nat.le_of_ble_eq_true rfl) dX11_whatWas_56 ⟨Nat.zero_le _, Nat.zero_le _⟩ (fun r5 G5 H locs hw5 hP hS => ?_)
          obtain ⟨rfl, rfl⟩ := hw5
          subst hQ_
          exact z_iret C0 hP hS (v := (-3 : Int32)) (by exact zQc_of (k := 3) (by simp [A_was, hz_is, hy_is, c_21, d_26, c_50]) (fun k hk => g1_n (by omega)) (g1_s _ _ _) (z_plk (g1_n (by decide)) hp)) dX11_whatWas_59
      · skip
        have d_26 := Int32.not_le.mp c_26
        refine lv_aload_n hx hb dX11_whatWas_29 rfl (lv_at hl 0 rfl) ?_
        refine lv_bipush (v := (-2 : Int32)) hx hb dX11_whatWas_30 (by decide) ?_
        refine z_Vi C0 hP hD hA hS (As := [.int (-2 : Int32)]) (rest := []) (k := 0) (c_X11_refuse l E _ (-2 : Int32) 2 (by decide) (by decide) (by decide)) (cwV 1 hts (zgV zbw mlRX11_72 imX11_refuse seX11_refuse iniRX11 coX11_refuse) rfl rfl rfl (by decide +kernel) ⟨Nat.le_of_ble_eq_true rfl, Nat.le_of_ble_eq_true rfl⟩) (zk_lt (rfl : zk 0 = 9) (by decide)) (zd_9 E (rfl : zk 0 = 9) _) rfl rfl rfl hl.1 rfl (Nat.le_of_ble_eq_true rfl) dX11_whatWas_32 ⟨Nat.zero_le _, Nat.zero_le _⟩ (fun r6 G6 H locs hw6 hP hS => ?_)
        obtain ⟨rfl, rfl⟩ := hw6
        subst hQ_
        exact z_iret C0 hP hS (v := (-2 : Int32)) (by exact zQc_of (k := 2) (by simp [A_was, hz_is, hy_is, c_21, d_26]) (fun k hk => g1_n (by omega)) (g1_s _ _ _) (z_plk (g1_n (by decide)) hp)) dX11_whatWas_35
  · skip
    have hz_is := zin_f (by omega) hno1
    refine lv_if_ne (tgt := 20) hx hb dX11_whatWas_11 (by decide) (fun h_ => absurd (by decide) h_) (fun _ => ?_)
    refine lv_aload_n hx hb dX11_whatWas_14 rfl (lv_at hl 0 rfl) ?_
    refine lv_iconst (v := (-1 : Int32)) hx hb dX11_whatWas_15 (by decide) ?_
    refine z_Vi C0 hP hD hA hS (As := [.int (-1 : Int32)]) (rest := []) (k := 0) (c_X11_refuse l E _ (-1 : Int32) 1 (by decide) (by decide) (by decide)) (cwV 1 hts (zgV zbw mlRX11_72 imX11_refuse seX11_refuse iniRX11 coX11_refuse) rfl rfl rfl (by decide +kernel) ⟨Nat.le_of_ble_eq_true rfl, Nat.le_of_ble_eq_true rfl⟩) (zk_lt (rfl : zk 0 = 9) (by decide)) (zd_9 E (rfl : zk 0 = 9) _) rfl rfl rfl hl.1 rfl (Nat.le_of_ble_eq_true rfl) dX11_whatWas_16 ⟨Nat.zero_le _, Nat.zero_le _⟩ (fun r7 G7 H locs hw7 hP hS => ?_)
    obtain ⟨rfl, rfl⟩ := hw7
    subst hQ_
    exact z_iret C0 hP hS (v := (-1 : Int32)) (by exact zQc_of (k := 1) (by simp [A_was, hz_is]) (fun k hk => g1_n (by omega)) (g1_s _ _ _) (z_plk (g1_n (by decide)) hp)) dX11_whatWas_19
set_option maxHeartbeats 4000000 in
set_option maxRecDepth 100000 in
theorem c_X12_whatWas (l : Launch) (E : zE) (G : zG) (r : Nat → Int32) (n na : Nat) (sect what : Int32) (hM : G 93 = r) (hrn : r 0 = nI n) (hrna : r 1 = nI na) (hn10 : n ≤ 10) (hna : na ≤ 5) : zMi l yX12_whatWas wsX12_whatWas ({ frames := 6, cells := 0, slots := 0, locals := 142 } : Room) E G [.ref (E.1 92), .int sect, .int what] (fun r1 G1 => zQm (A_was r n na (G 92 9) (G 98) sect what) G r1 G1) := by
  refine zOf (cc := cX12_whatWas) (nL := 8) (ret := (some .int)) RX12 (by decide) rfl rfl (Nat.le_of_ble_eq_true rfl) ?_
  intro p_ e_ s_ m_ a_ b_ me_ c_ ls C0 hP hS hl
  have hx := C0.1
  have hb := C0.2.1
  have hts := C0.2.2.2.2.1
  have hD : zD E (zA E s_.heap.size) := C0.2.2.2.2.2.2.2.2
  have hA : ∀ q : Nat, s_.heap.size ≤ q → zA E s_.heap.size q := fun q h => Or.inr h
  refine z_gen (fun Q_ hQ_ => ?_)
  have hl : lv_has ls 8 [(0, .ref (E.1 92)), (1, .int sect), (2, .int what)] := hl
  refine lv_aload_n hx hb dX12_whatWas_0 rfl (lv_at hl 0 rfl) ?_
  refine lv_iload_n hx hb dX12_whatWas_1 rfl (lv_at hl 1 rfl) ?_
  refine z_Vi C0 hP hD hA hS (As := [.int sect]) (rest := []) (k := 92) (c_X12_isSection l E _ n sect ((congrFun (hM) _).trans (hrn)) (by omega)) (cwV 1 hts (zgV zbw mlRX12_139 imX12_isSection seX12_isSection iniRX12 coX12_isSection) rfl rfl rfl (by decide +kernel) ⟨Nat.le_of_ble_eq_true rfl, Nat.le_of_ble_eq_true rfl⟩) (zk_lt (rfl : zk 92 = 10) (by decide)) (zd_10 E (rfl : zk 92 = 10) _) rfl rfl rfl hl.1 rfl (Nat.le_of_ble_eq_true rfl) dX12_whatWas_2 ⟨Nat.zero_le _, Nat.zero_le _⟩ (fun r1 G1 H locs hw1 hP hS => ?_)
  rcases hw1 with ⟨rfl, rfl, is, his, rfl⟩ | ⟨rfl, rfl, hno1⟩
  · skip
    have hz_is := zin_t his (by omega)
    have hy_is : zix (nI is) = is := zix_n (by omega)
    refine lv_if_ne (tgt := 14) hx hb dX12_whatWas_5 (by decide) (fun _ => ?_) (fun h_ => absurd h_ (by decide))
    refine lv_iload_n hx hb dX12_whatWas_14 rfl (lv_at hl 2 rfl) ?_
    refine lv_iconst (v := (0 : Int32)) hx hb dX12_whatWas_15 (by decide) ?_
    refine lv_iconst (v := (1 : Int32)) hx hb dX12_whatWas_16 (by decide) ?_
    refine z_Si C0 hP hD hA hS (As := [.int what, .int (0 : Int32), .int (1 : Int32)]) (rest := []) (c_X12_isIn l E _ what (0 : Int32) (1 : Int32)) (va_cwS 3 hts (zgS zbw mlRX12_62 stX12_isIn iniRX12 coX12_isIn) rfl rfl rfl (by decide +kernel) ⟨Nat.le_of_ble_eq_true rfl, Nat.le_of_ble_eq_true rfl⟩) rfl hl.1 rfl (Nat.le_of_ble_eq_true rfl) dX12_whatWas_17 ⟨Nat.zero_le _, Nat.zero_le _⟩ (fun r2 G2 H locs hw2 hP hS => ?_)
    rcases hw2 with ⟨rfl, rfl, hi1_2, hi2_2⟩ | ⟨rfl, rfl, hi0_2⟩
    · skip
      have hi3_2 := Int32.not_lt.mpr hi1_2
      have hi4_2 := Int32.not_lt.mpr hi2_2
      obtain ⟨wh, hwh, rfl⟩ := z_rng (m := 2) hi3_2 hi2_2 (by decide) (by decide)
      have hy_wh : zix (nI wh) = wh := zix_n (by omega)
      refine lv_if_ne (tgt := 30) hx hb dX12_whatWas_20 (by decide) (fun _ => ?_) (fun h_ => absurd h_ (by decide))
      refine lv_aload_n hx hb dX12_whatWas_30 rfl (lv_at hl 0 rfl) ?_
      refine z_get C0 hP (C := RX12) (T := TX12) (N := 21) (ci := 10) (index := 192) (k := 92) (ref := "WetSuitPedalsShoesModel") (zk_lt (rfl : zk 92 = 10) (by decide)) (zd_10 E (rfl : zk 92 = 10) _) rfl (zmi inU_12) 9 (by decide) (zm flRX12_192) rfl (v := .int (G 92 9)) (rfl) dX12_whatWas_31 ?_
      refine lv_aload_n hx hb dX12_whatWas_34 rfl (lv_at hl 0 rfl) ?_
      refine z_get C0 hP (C := RX12) (T := TX12) (N := 21) (ci := 10) (index := 9) (k := 92) (ref := "WetSuitPedalsShoesModel") (zk_lt (rfl : zk 92 = 10) (by decide)) (zd_10 E (rfl : zk 92 = 10) _) rfl (zmi inU_12) 0 (by decide) (zm flRX12_9) rfl (v := .ref (E.1 93)) (rfl) dX12_whatWas_35 ?_
      refine lv_iconst (v := (1 : Int32)) hx hb dX12_whatWas_38 (by decide) ?_
      refine z_iald C0 hP (k := 93) (i := 1) (v := (nI na)) (rfl : zk 93 = 11) (Nat.lt_of_lt_of_eq (show 1 < 102 by decide) (rfl : zl 93 = 102).symm) rfl dX12_whatWas_39 ((congrFun (hM) _).trans (hrna)) ?_
      refine lv_icmp_eq (tgt := 50) hx hb dX12_whatWas_40 (by decide) (fun c_40 => ?_) (fun c_40 => ?_)
      · skip
        refine lv_iconst (v := (0 : Int32)) hx hb dX12_whatWas_50 (by decide) ?_
        refine lv_istore_n (lv' := [(3, .int (0 : Int32)), (0, .ref (E.1 92)), (1, .int (nI is)), (2, .int (nI wh))]) hx hb dX12_whatWas_51 rfl hl (by decide) rfl (fun ls hl => ?_)
        refine lv_iconst (v := (0 : Int32)) hx hb dX12_whatWas_52 (by decide) ?_
        refine lv_istore (lv' := [(4, .int (0 : Int32)), (3, .int (0 : Int32)), (0, .ref (E.1 92)), (1, .int (nI is)), (2, .int (nI wh))]) hx hb dX12_whatWas_53 hl (by decide) rfl (fun ls hl => ?_)
        have cut_55 : ∀ (fuel : Nat), ∀ (k : Nat) (st_ : Int32) (Gc : zG) (H : Heap) (locs : List Loc) (ls : Array Slot), (k ≤ 7 + 3 * wh) → (∀ k, (k < 94 ∨ (94 < k ∧ k < 100) ∨ 102 < k) → Gc k = G k) → (st_ = b_set (q_wp r na is (G 98) wh) k) → zP E Gc H → va_S (zA E s_.heap.size) s_.heap H locs → lv_has ls 8 [(0, .ref (E.1 92)), (1, .int (nI is)), (2, .int (nI wh)), (3, .int st_), (4, .int (nI k))] → 7 + 3 * wh - k < fuel → W p_ l e_ ({ frames := 6, cells := 0, slots := 0, locals := 142 } : Room) s_ m_ a_ b_ me_ c_ H locs 0 0 Q_ (F0 m_ 55 ls []) := by
          intro fuel
          induction fuel with
          | zero =>
            intro k  st_  Gc  H locs ls hk hFc hst hP hS hl hfu
            exact absurd hfu (Nat.not_lt_zero _)
          | succ fuel ih_55 =>
            intro k  st_  Gc  H locs ls hk hFc hst hP hS hl hfu_55
            refine lv_iload hx hb dX12_whatWas_55 (lv_at hl 4 rfl) ?_
            refine lv_iload_n hx hb dX12_whatWas_57 rfl (lv_at hl 2 rfl) ?_
            refine z_0_ne hx hb (a := wh) (tgt := 66) dX12_whatWas_58 rfl (by omega) (by decide) (fun c_58 => ?_) (fun c_58 => ?_)
            · skip
              refine lv_bipush (v := (10 : Int32)) hx hb dX12_whatWas_66 (by decide) ?_
              refine z_N_ge hx hb (a := k) (b := 10) (tgt := 190) dX12_whatWas_68 rfl rfl (by omega) (by omega) (by decide) (fun c_68 => ?_) (fun c_68 => ?_)
              · skip
                have e9 := (show q_was r na is (G 98) wh = st_ by unfold q_was; rw [hst, show k = 7 + 3 * wh by omega])
                refine lv_iload_n hx hb dX12_whatWas_190 rfl (lv_at hl 3 rfl) ?_
                subst hQ_
                exact z_iret C0 hP hS (v := st_) (by rcases (show wh = 0 ∨ wh = 1 by omega) with h7 | h7; (subst h7; first | (exfalso; omega) | (exact zQm_of (k := 0) (by simp [A_was, hz_is, hy_is, hi3_2, hi4_2, hy_wh, c_40, c_58, c_68, e9, z_nI0, z_nI1]) (fun k hk => hFc k (by omega)) (hFc _ (by decide)))); (subst h7; first | (exfalso; omega) | (exact zQm_of (k := 0) (by simp [A_was, hz_is, hy_is, hi3_2, hi4_2, hy_wh, c_40, c_58, c_68, e9, z_nI0, z_nI1]) (fun k hk => hFc k (by omega)) (hFc _ (by decide))))) dX12_whatWas_191
              · skip
                refine lv_aload_n hx hb dX12_whatWas_71 rfl (lv_at hl 0 rfl) ?_
                refine z_get C0 hP (C := RX12) (T := TX12) (N := 21) (ci := 10) (index := 9) (k := 92) (ref := "WetSuitPedalsShoesModel") (zk_lt (rfl : zk 92 = 10) (by decide)) (zd_10 E (rfl : zk 92 = 10) _) rfl (zmi inU_12) 0 (by decide) (zm flRX12_9) rfl (v := .ref (E.1 93)) (rfl) dX12_whatWas_72 ?_
                refine lv_aload_n hx hb dX12_whatWas_75 rfl (lv_at hl 0 rfl) ?_
                refine z_get C0 hP (C := RX12) (T := TX12) (N := 21) (ci := 10) (index := 13) (k := 92) (ref := "WetSuitPedalsShoesModel") (zk_lt (rfl : zk 92 = 10) (by decide)) (zd_10 E (rfl : zk 92 = 10) _) rfl (zmi inU_12) 1 (by decide) (zm flRX12_13) rfl (v := .ref (E.1 94)) (rfl) dX12_whatWas_76 ?_
                refine z_Sv C0 hP hD hA hS (As := [.ref (E.1 93), .ref (E.1 94)]) (rest := []) (c_X12_lays l E _ 93 94 z_lit_Arr102_93 z_lit_Arr102_94 (by decide)) (va_cwS 2 hts (zgS zbw mlRX12_149 stX12_lays iniRX12 coX12_lays) rfl rfl rfl (by decide +kernel) ⟨Nat.le_of_ble_eq_true rfl, Nat.le_of_ble_eq_true rfl⟩) rfl hl.1 rfl (Nat.le_of_ble_eq_true rfl) dX12_whatWas_79 ⟨Nat.zero_le _, Nat.zero_le _⟩ (fun G3 H locs hw3 hP hS => ?_)
                obtain ⟨hF3, hcp3⟩ := hw3
                refine lv_aload_n hx hb dX12_whatWas_82 rfl (lv_at hl 0 rfl) ?_
                refine z_get C0 hP (C := RX12) (T := TX12) (N := 21) (ci := 10) (index := 13) (k := 92) (ref := "WetSuitPedalsShoesModel") (zk_lt (rfl : zk 92 = 10) (by decide)) (zd_10 E (rfl : zk 92 = 10) _) rfl (zmi inU_12) 1 (by decide) (zm flRX12_13) rfl (v := .ref (E.1 94)) (rfl) dX12_whatWas_83 ?_
                refine lv_iload_n hx hb dX12_whatWas_86 rfl (lv_at hl 1 rfl) ?_
                refine lv_iload_n hx hb dX12_whatWas_87 rfl (lv_at hl 2 rfl) ?_
                refine z_0_ne hx hb (a := wh) (tgt := 95) dX12_whatWas_88 rfl (by omega) (by decide) (fun c_88 => ?_) (fun c_88 => ?_)
                · skip
                  refine lv_iconst (v := (1 : Int32)) hx hb dX12_whatWas_95 (by decide) ?_
                  refine z_Si C0 hP hD hA hS (As := [.int (nI is), .int (1 : Int32)]) (rest := [.ref (E.1 94)]) (c_X12_of l E _ is 1) (va_cwS 2 hts (zgS zbw mlRX12_66 stX12_of iniRX12 coX12_of) rfl rfl rfl (by decide +kernel) ⟨Nat.le_of_ble_eq_true rfl, Nat.le_of_ble_eq_true rfl⟩) rfl hl.1 rfl (Nat.le_of_ble_eq_true rfl) dX12_whatWas_96 ⟨Nat.zero_le _, Nat.zero_le _⟩ (fun r4 G4 H locs hw4 hP hS => ?_)
                  obtain ⟨hr4, rfl⟩ := hw4
                  subst hr4
                  refine z_eqi (y := (nI (3 + 3 * is))) (congrArg nI (by omega)) ?_
                  refine lv_iload hx hb dX12_whatWas_99 (lv_at hl 4 rfl) ?_
                  refine z_iast C0 hP hD hS (k := 94) (i := 3 + 3 * is) (v := (nI k)) (F := G3 94) (rfl) (rfl : zk 94 = 11) (Nat.lt_of_lt_of_eq (show 3 + 3 * is < 102 by omega) (rfl : zl 94 = 102).symm) rfl dX12_whatWas_101 (fun H locs hP hS => ?_)
                  refine lv_iconst (v := (1 : Int32)) hx hb dX12_whatWas_102 (by decide) ?_
                  refine lv_istore (lv' := [(5, .int (1 : Int32)), (0, .ref (E.1 92)), (1, .int (nI is)), (2, .int (nI wh)), (3, .int st_), (4, .int (nI k))]) hx hb dX12_whatWas_103 hl (by decide) rfl (fun ls hl => ?_)
                  refine lv_iconst (v := (0 : Int32)) hx hb dX12_whatWas_105 (by decide) ?_
                  refine lv_istore (lv' := [(6, .int (0 : Int32)), (5, .int (1 : Int32)), (0, .ref (E.1 92)), (1, .int (nI is)), (2, .int (nI wh)), (3, .int st_), (4, .int (nI k))]) hx hb dX12_whatWas_106 hl (by decide) rfl (fun ls hl => ?_)
                  have cut_108 : ∀ (fuel : Nat), ∀ (a s : Nat) (Gd : zG) (H : Heap) (locs : List Loc) (ls : Array Slot), (a ≤ na) → (∀ x, (x < 100 ∨ 102 < x) → Gd x = (g1 G3 94 (upd (G3 94) (3 + 3 * is) (nI k))) x) → (s = s_all (fun a => decide (s_mn 99 (m_sc (upd r (2 + 3 * is + wh) (nI k)) a (-1) is) = G 98 a)) a) → zP E Gd H → va_S (zA E s_.heap.size) s_.heap H locs → lv_has ls 8 [(0, .ref (E.1 92)), (1, .int (nI is)), (2, .int (nI wh)), (3, .int st_), (4, .int (nI k)), (5, .int (nI s)), (6, .int (nI a))] → na - a < fuel → W p_ l e_ ({ frames := 6, cells := 0, slots := 0, locals := 142 } : Room) s_ m_ a_ b_ me_ c_ H locs 0 0 Q_ (F0 m_ 108 ls []) := by
                    intro fuel
                    induction fuel with
                    | zero =>
                      intro a s  Gd  H locs ls han hFd hs hP hS hl hfu
                      exact absurd hfu (Nat.not_lt_zero _)
                    | succ fuel ih_108 =>
                      intro a s  Gd  H locs ls han hFd hs hP hS hl hfu_108
                      refine lv_iload hx hb dX12_whatWas_108 (lv_at hl 6 rfl) ?_
                      refine lv_aload_n hx hb dX12_whatWas_110 rfl (lv_at hl 0 rfl) ?_
                      refine z_get C0 hP (C := RX12) (T := TX12) (N := 21) (ci := 10) (index := 9) (k := 92) (ref := "WetSuitPedalsShoesModel") (zk_lt (rfl : zk 92 = 10) (by decide)) (zd_10 E (rfl : zk 92 = 10) _) rfl (zmi inU_12) 0 (by decide) (zm flRX12_9) rfl (v := .ref (E.1 93)) (rfl) dX12_whatWas_111 ?_
                      refine lv_iconst (v := (1 : Int32)) hx hb dX12_whatWas_114 (by decide) ?_
                      refine z_iald C0 hP (k := 93) (i := 1) (v := (nI na)) (rfl : zk 93 = 11) (Nat.lt_of_lt_of_eq (show 1 < 102 by decide) (rfl : zl 93 = 102).symm) rfl dX12_whatWas_115 ((congrFun ((hFd _ (by decide)).trans ((g1_n (by decide)).trans ((hF3 _ (by decide)).trans ((hFc _ (by decide)).trans (hM))))) _).trans (hrna)) ?_
                      refine z_N_ge hx hb (a := a) (b := na) (tgt := 168) dX12_whatWas_116 rfl rfl (by omega) (by omega) (by decide) (fun c_116 => ?_) (fun c_116 => ?_)
                      · skip
                        have h8 : s = q_tl (upd r (2 + 3 * is + wh) (nI k)) is na (G 98) := by rw [hs, show a = na by omega]; rfl
                        have h9 := q_tl_le (upd r (2 + 3 * is + wh) (nI k)) is na (G 98)
                        refine lv_iload_n hx hb dX12_whatWas_168 rfl (lv_at hl 3 rfl) ?_
                        refine lv_iload hx hb dX12_whatWas_169 (lv_at hl 5 rfl) ?_
                        refine z_0_eq hx hb (a := s) (tgt := 181) dX12_whatWas_171 rfl (by (rw [hs]; exact Nat.lt_of_le_of_lt (s_all_le _ _) (by decide))) (by decide) (fun c_171 => ?_) (fun c_171 => ?_)
                        · skip
                          refine lv_iconst (v := (0 : Int32)) hx hb dX12_whatWas_181 (by decide) ?_
                          refine lv_ior hx hb dX12_whatWas_182 ?_
                          refine lv_istore_n (lv' := [(3, .int (st_ ||| (0 : Int32))), (0, .ref (E.1 92)), (1, .int (nI is)), (2, .int (nI wh)), (4, .int (nI k)), (5, .int (nI s)), (6, .int (nI a))]) hx hb dX12_whatWas_183 rfl hl (by decide) rfl (fun ls hl => ?_)
                          refine lv_iinc (v := (nI (k + 1))) (lv' := [(4, .int (nI (k + 1))), (3, .int (st_ ||| (0 : Int32))), (0, .ref (E.1 92)), (1, .int (nI is)), (2, .int (nI wh)), (5, .int (nI s)), (6, .int (nI a))]) hx hb dX12_whatWas_184 hl (k := 4) rfl (z_inc (by decide)) (by decide) rfl (fun ls hl => ?_)
                          refine lv_goto (tgt := 55) hx hb dX12_whatWas_187 (by decide) ?_
                          exact ih_55 (k + 1) (st_ ||| (0 : Int32)) Gd _ _ _ (by first | assumption | omega) (by exact fun k hk => (hFd k (by omega)).trans ((g1_n (by omega)).trans ((hF3 k (by omega)).trans (hFc k (by omega))))) (by rw [z_or0]; exact hst.trans (b_set_n (fun q => by have := of_decide_eq_true q; omega)).symm) hP hS (lv_sub hl [2, 3, 4, 1, 0] rfl) (by omega)
                        · skip
                          refine lv_iconst (v := (1 : Int32)) hx hb dX12_whatWas_174 (by decide) ?_
                          refine lv_iload hx hb dX12_whatWas_175 (lv_at hl 4 rfl) ?_
                          refine lv_ishl hx hb dX12_whatWas_177 ?_
                          refine lv_goto (tgt := 182) hx hb dX12_whatWas_178 (by decide) ?_
                          refine lv_ior hx hb dX12_whatWas_182 ?_
                          refine lv_istore_n (lv' := [(3, .int (st_ ||| ((1 : Int32) <<< ((nI k) &&& 31)))), (0, .ref (E.1 92)), (1, .int (nI is)), (2, .int (nI wh)), (4, .int (nI k)), (5, .int (nI s)), (6, .int (nI a))]) hx hb dX12_whatWas_183 rfl hl (by decide) rfl (fun ls hl => ?_)
                          refine lv_iinc (v := (nI (k + 1))) (lv' := [(4, .int (nI (k + 1))), (3, .int (st_ ||| ((1 : Int32) <<< ((nI k) &&& 31)))), (0, .ref (E.1 92)), (1, .int (nI is)), (2, .int (nI wh)), (5, .int (nI s)), (6, .int (nI a))]) hx hb dX12_whatWas_184 hl (k := 4) rfl (z_inc (by decide)) (by decide) rfl (fun ls hl => ?_)
                          refine lv_goto (tgt := 55) hx hb dX12_whatWas_187 (by decide) ?_
                          exact ih_55 (k + 1) (st_ ||| ((1 : Int32) <<< ((nI k) &&& 31))) Gd _ _ _ (by first | assumption | omega) (by exact fun k hk => (hFd k (by omega)).trans ((g1_n (by omega)).trans ((hF3 k (by omega)).trans (hFc k (by omega))))) (by exact (congrArg (fun z => z ||| _) hst).trans (b_set_y (decide_eq_true (by omega))).symm) hP hS (lv_sub hl [2, 3, 4, 1, 0] rfl) (by omega)
                      · skip
                        refine lv_aload_n hx hb dX12_whatWas_119 rfl (lv_at hl 0 rfl) ?_
                        refine lv_aload_n hx hb dX12_whatWas_120 rfl (lv_at hl 0 rfl) ?_
                        refine z_get C0 hP (C := RX12) (T := TX12) (N := 21) (ci := 10) (index := 13) (k := 92) (ref := "WetSuitPedalsShoesModel") (zk_lt (rfl : zk 92 = 10) (by decide)) (zd_10 E (rfl : zk 92 = 10) _) rfl (zmi inU_12) 1 (by decide) (zm flRX12_13) rfl (v := .ref (E.1 94)) (rfl) dX12_whatWas_121 ?_
                        refine lv_iload hx hb dX12_whatWas_124 (lv_at hl 6 rfl) ?_
                        refine z_Vi C0 hP hD hA hS (As := [.ref (E.1 94), .int (nI a)]) (rest := []) (k := 92) (c_X12_finishOf l E _ 94 a n z_lit_Arr102_94 (by omega) ((congrFun ((hFd _ (by decide)).trans (g1_s _ _ _)) _).trans ((pk_un (by omega)).trans (((hcp3 0 (by omega)).trans (congrFun ((hFc _ (by decide)).trans (hM)) _)).trans (hrn)))) (by omega) (by omega)) (cwV 2 hts (zgV zbw mlRX12_156 imX12_finishOf seX12_finishOf iniRX12 coX12_finishOf) rfl rfl rfl (by decide +kernel) ⟨Nat.le_of_ble_eq_true rfl, Nat.le_of_ble_eq_true rfl⟩) (zk_lt (rfl : zk 92 = 10) (by decide)) (zd_10 E (rfl : zk 92 = 10) _) rfl rfl rfl hl.1 rfl (Nat.le_of_ble_eq_true rfl) dX12_whatWas_126 ⟨Nat.zero_le _, Nat.zero_le _⟩ (fun r5 G5 H locs hw5 hP hS => ?_)
                        obtain ⟨hr5, hF5, hrow5⟩ := hw5
                        rw [show Gd 94 = (upd (G3 94) (3 + 3 * is) (nI k)) from (hFd _ (by decide)).trans (g1_s _ _ _)] at hrow5
                        have hq5 : ∀ j, j < 102 → (upd (G3 94) (3 + 3 * is) (nI k)) j = upd r (2 + 3 * is + wh) (nI k) j := ww_row (by omega) (fun j hj => (hcp3 j hj).trans (congrFun ((hFc _ (by decide)).trans (hM)) j))
                        refine lv_istore (lv' := [(7, .int r5), (0, .ref (E.1 92)), (1, .int (nI is)), (2, .int (nI wh)), (3, .int st_), (4, .int (nI k)), (5, .int (nI s)), (6, .int (nI a))]) hx hb dX12_whatWas_129 hl (by decide) rfl (fun ls hl => ?_)
                        refine lv_iload hx hb dX12_whatWas_131 (lv_at hl 6 rfl) ?_
                        refine lv_bipush (v := (99 : Int32)) hx hb dX12_whatWas_133 (by decide) ?_
                        refine lv_aload_n hx hb dX12_whatWas_135 rfl (lv_at hl 1 rfl) ?_
                        refine z_get C0 hP (C := RX12) (T := TX12) (N := 21) (ci := 10) (index := 31) (k := 92) (ref := "WetSuitPedalsShoesModel") (zk_lt (rfl : zk 92 = 10) (by decide)) (zd_10 E (rfl : zk 92 = 10) _) rfl (zmi inU_12) 10 (by decide) (zm flRX12_31) rfl (v := .ref (E.1 100)) (rfl) dX12_whatWas_136 ?_
                        refine lv_iload_n hx hb dX12_whatWas_139 rfl (lv_at hl 2 rfl) ?_
                        refine z_iald C0 hP (k := 100) (i := is) (v := (m_sc (upd r (2 + 3 * is + wh) (nI k)) a (-1) is)) (rfl : zk 100 = 11) (Nat.lt_of_lt_of_eq (show is < 10 by omega) (rfl : zl 100 = 10).symm) rfl dX12_whatWas_140 (((hrow5 is (by omega)).1).trans (m_sc_c hq5 (by omega) (by omega))) ?_
                        refine z_Si C0 hP hD hA hS (As := [.int (99 : Int32), .int (m_sc (upd r (2 + 3 * is + wh) (nI k)) a (-1) is)]) (rest := [.int (nI s)]) (c_X12_least l E _ (99 : Int32) (m_sc (upd r (2 + 3 * is + wh) (nI k)) a (-1) is)) (va_cwS 2 hts (zgS zbw mlRX12_88 stX12_least iniRX12 coX12_least) rfl rfl rfl (by decide +kernel) ⟨Nat.le_of_ble_eq_true rfl, Nat.le_of_ble_eq_true rfl⟩) rfl hl.1 rfl (Nat.le_of_ble_eq_true rfl) dX12_whatWas_141 ⟨Nat.zero_le _, Nat.zero_le _⟩ (fun r6 G6 H locs hw6 hP hS => ?_)
                        obtain ⟨rfl, rfl⟩ := hw6
                        refine lv_aload_n hx hb dX12_whatWas_144 rfl (lv_at hl 1 rfl) ?_
                        refine z_get C0 hP (C := RX12) (T := TX12) (N := 21) (ci := 10) (index := 25) (k := 92) (ref := "WetSuitPedalsShoesModel") (zk_lt (rfl : zk 92 = 10) (by decide)) (zd_10 E (rfl : zk 92 = 10) _) rfl (zmi inU_12) 6 (by decide) (zm flRX12_25) rfl (v := .ref (E.1 98)) (rfl) dX12_whatWas_145 ?_
                        refine lv_iload hx hb dX12_whatWas_148 (lv_at hl 7 rfl) ?_
                        refine z_iald C0 hP (k := 98) (i := a) (v := (G 98 a)) (rfl : zk 98 = 11) (Nat.lt_of_lt_of_eq (show a < 12 by omega) (rfl : zl 98 = 12).symm) rfl dX12_whatWas_150 (congrFun ((hF5 _ (by decide)).trans ((hFd _ (by decide)).trans ((g1_n (by decide)).trans ((hF3 _ (by decide)).trans (hFc _ (by decide)))))) _) ?_
                        refine lv_icmp_ne (tgt := 158) hx hb dX12_whatWas_151 (by decide) (fun c_151 => ?_) (fun c_151 => ?_)
                        · skip
                          refine lv_iconst (v := (0 : Int32)) hx hb dX12_whatWas_158 (by decide) ?_
                          refine lv_iand hx hb dX12_whatWas_159 ?_
                          refine z_eqi (y := (0 : Int32)) (z_and0 _) ?_
                          refine lv_istore (lv' := [(5, .int (0 : Int32)), (7, .int r5), (0, .ref (E.1 92)), (1, .int (nI is)), (2, .int (nI wh)), (3, .int st_), (4, .int (nI k)), (6, .int (nI a))]) hx hb dX12_whatWas_160 hl (by decide) rfl (fun ls hl => ?_)
                          refine lv_iinc (v := (nI (a + 1))) (lv' := [(6, .int (nI (a + 1))), (5, .int (0 : Int32)), (7, .int r5), (0, .ref (E.1 92)), (1, .int (nI is)), (2, .int (nI wh)), (3, .int st_), (4, .int (nI k))]) hx hb dX12_whatWas_162 hl (k := 7) rfl (z_inc (by decide)) (by decide) rfl (fun ls hl => ?_)
                          refine lv_goto (tgt := 108) hx hb dX12_whatWas_165 (by decide) ?_
                          exact ih_108 (a + 1) 0 G5 _ _ _ (by first | assumption | omega) (by exact fun k hk => (hF5 k (by omega)).trans (hFd k hk)) (by exact (s_all_n (fun q => c_151 ((m_min_s _).trans (of_decide_eq_true q)))).symm) hP hS (lv_sub hl [3, 4, 5, 6, 7, 1, 0] rfl) (by omega)
                        · skip
                          refine lv_iconst (v := (1 : Int32)) hx hb dX12_whatWas_154 (by decide) ?_
                          refine lv_goto (tgt := 159) hx hb dX12_whatWas_155 (by decide) ?_
                          refine lv_iand hx hb dX12_whatWas_159 ?_
                          refine z_eqi (y := (nI s)) (z_and1 (by rw [hs]; exact s_all_le _ _)) ?_
                          refine lv_istore (lv' := [(5, .int (nI s)), (7, .int r5), (0, .ref (E.1 92)), (1, .int (nI is)), (2, .int (nI wh)), (3, .int st_), (4, .int (nI k)), (6, .int (nI a))]) hx hb dX12_whatWas_160 hl (by decide) rfl (fun ls hl => ?_)
                          refine lv_iinc (v := (nI (a + 1))) (lv' := [(6, .int (nI (a + 1))), (5, .int (nI s)), (7, .int r5), (0, .ref (E.1 92)), (1, .int (nI is)), (2, .int (nI wh)), (3, .int st_), (4, .int (nI k))]) hx hb dX12_whatWas_162 hl (k := 7) rfl (z_inc (by decide)) (by decide) rfl (fun ls hl => ?_)
                          refine lv_goto (tgt := 108) hx hb dX12_whatWas_165 (by decide) ?_
                          exact ih_108 (a + 1) s G5 _ _ _ (by first | assumption | omega) (by exact fun k hk => (hF5 k (by omega)).trans (hFd k hk)) (by rw [hs]; exact (s_all_y (decide_eq_true ((m_min_s _).symm.trans c_151))).symm) hP hS (lv_sub hl [3, 4, 5, 6, 7, 1, 0] rfl) (by omega)
                  exact cut_108 (_ + 1) 0 1 (g1 G3 94 (upd (G3 94) (3 + 3 * is) (nI k))) _ _ _ (by first | assumption | omega) (by exact fun _ _ => rfl) (by rfl) hP hS (lv_sub hl [2, 3, 4, 5, 6, 1, 0] rfl) (Nat.lt_succ_self _)
                · skip
                  refine lv_iconst (v := (0 : Int32)) hx hb dX12_whatWas_91 (by decide) ?_
                  refine lv_goto (tgt := 96) hx hb dX12_whatWas_92 (by decide) ?_
                  refine z_Si C0 hP hD hA hS (As := [.int (nI is), .int (0 : Int32)]) (rest := [.ref (E.1 94)]) (c_X12_of l E _ is 0) (va_cwS 2 hts (zgS zbw mlRX12_66 stX12_of iniRX12 coX12_of) rfl rfl rfl (by decide +kernel) ⟨Nat.le_of_ble_eq_true rfl, Nat.le_of_ble_eq_true rfl⟩) rfl hl.1 rfl (Nat.le_of_ble_eq_true rfl) dX12_whatWas_96 ⟨Nat.zero_le _, Nat.zero_le _⟩ (fun r7 G7 H locs hw7 hP hS => ?_)
                  obtain ⟨hr7, rfl⟩ := hw7
                  subst hr7
                  refine z_eqi (y := (nI (2 + 3 * is))) (congrArg nI (by omega)) ?_
                  refine lv_iload hx hb dX12_whatWas_99 (lv_at hl 4 rfl) ?_
                  refine z_iast C0 hP hD hS (k := 94) (i := 2 + 3 * is) (v := (nI k)) (F := G3 94) (rfl) (rfl : zk 94 = 11) (Nat.lt_of_lt_of_eq (show 2 + 3 * is < 102 by omega) (rfl : zl 94 = 102).symm) rfl dX12_whatWas_101 (fun H locs hP hS => ?_)
                  refine lv_iconst (v := (1 : Int32)) hx hb dX12_whatWas_102 (by decide) ?_
                  refine lv_istore (lv' := [(5, .int (1 : Int32)), (0, .ref (E.1 92)), (1, .int (nI is)), (2, .int (nI wh)), (3, .int st_), (4, .int (nI k))]) hx hb dX12_whatWas_103 hl (by decide) rfl (fun ls hl => ?_)
                  refine lv_iconst (v := (0 : Int32)) hx hb dX12_whatWas_105 (by decide) ?_
                  refine lv_istore (lv' := [(6, .int (0 : Int32)), (5, .int (1 : Int32)), (0, .ref (E.1 92)), (1, .int (nI is)), (2, .int (nI wh)), (3, .int st_), (4, .int (nI k))]) hx hb dX12_whatWas_106 hl (by decide) rfl (fun ls hl => ?_)
                  have cut_108 : ∀ (fuel : Nat), ∀ (a s : Nat) (Gd : zG) (H : Heap) (locs : List Loc) (ls : Array Slot), (a ≤ na) → (∀ x, (x < 100 ∨ 102 < x) → Gd x = (g1 G3 94 (upd (G3 94) (2 + 3 * is) (nI k))) x) → (s = s_all (fun a => decide (s_mn 99 (m_sc (upd r (2 + 3 * is + wh) (nI k)) a (-1) is) = G 98 a)) a) → zP E Gd H → va_S (zA E s_.heap.size) s_.heap H locs → lv_has ls 8 [(0, .ref (E.1 92)), (1, .int (nI is)), (2, .int (nI wh)), (3, .int st_), (4, .int (nI k)), (5, .int (nI s)), (6, .int (nI a))] → na - a < fuel → W p_ l e_ ({ frames := 6, cells := 0, slots := 0, locals := 142 } : Room) s_ m_ a_ b_ me_ c_ H locs 0 0 Q_ (F0 m_ 108 ls []) := by
                    intro fuel
                    induction fuel with
                    | zero =>
                      intro a s  Gd  H locs ls han hFd hs hP hS hl hfu
                      exact absurd hfu (Nat.not_lt_zero _)
                    | succ fuel ih_108 =>
                      intro a s  Gd  H locs ls han hFd hs hP hS hl hfu_108
                      refine lv_iload hx hb dX12_whatWas_108 (lv_at hl 6 rfl) ?_
                      refine lv_aload_n hx hb dX12_whatWas_110 rfl (lv_at hl 0 rfl) ?_
                      refine z_get C0 hP (C := RX12) (T := TX12) (N := 21) (ci := 10) (index := 9) (k := 92) (ref := "WetSuitPedalsShoesModel") (zk_lt (rfl : zk 92 = 10) (by decide)) (zd_10 E (rfl : zk 92 = 10) _) rfl (zmi inU_12) 0 (by decide) (zm flRX12_9) rfl (v := .ref (E.1 93)) (rfl) dX12_whatWas_111 ?_
                      refine lv_iconst (v := (1 : Int32)) hx hb dX12_whatWas_114 (by decide) ?_
                      refine z_iald C0 hP (k := 93) (i := 1) (v := (nI na)) (rfl : zk 93 = 11) (Nat.lt_of_lt_of_eq (show 1 < 102 by decide) (rfl : zl 93 = 102).symm) rfl dX12_whatWas_115 ((congrFun ((hFd _ (by decide)).trans ((g1_n (by decide)).trans ((hF3 _ (by decide)).trans ((hFc _ (by decide)).trans (hM))))) _).trans (hrna)) ?_
                      refine z_N_ge hx hb (a := a) (b := na) (tgt := 168) dX12_whatWas_116 rfl rfl (by omega) (by omega) (by decide) (fun c_116 => ?_) (fun c_116 => ?_)
                      · skip
                        have h8 : s = q_tl (upd r (2 + 3 * is + wh) (nI k)) is na (G 98) := by rw [hs, show a = na by omega]; rfl
                        have h9 := q_tl_le (upd r (2 + 3 * is + wh) (nI k)) is na (G 98)
                        refine lv_iload_n hx hb dX12_whatWas_168 rfl (lv_at hl 3 rfl) ?_
                        refine lv_iload hx hb dX12_whatWas_169 (lv_at hl 5 rfl) ?_
                        refine z_0_eq hx hb (a := s) (tgt := 181) dX12_whatWas_171 rfl (by (rw [hs]; exact Nat.lt_of_le_of_lt (s_all_le _ _) (by decide))) (by decide) (fun c_171 => ?_) (fun c_171 => ?_)
                        · skip
                          refine lv_iconst (v := (0 : Int32)) hx hb dX12_whatWas_181 (by decide) ?_
                          refine lv_ior hx hb dX12_whatWas_182 ?_
                          refine lv_istore_n (lv' := [(3, .int (st_ ||| (0 : Int32))), (0, .ref (E.1 92)), (1, .int (nI is)), (2, .int (nI wh)), (4, .int (nI k)), (5, .int (nI s)), (6, .int (nI a))]) hx hb dX12_whatWas_183 rfl hl (by decide) rfl (fun ls hl => ?_)
                          refine lv_iinc (v := (nI (k + 1))) (lv' := [(4, .int (nI (k + 1))), (3, .int (st_ ||| (0 : Int32))), (0, .ref (E.1 92)), (1, .int (nI is)), (2, .int (nI wh)), (5, .int (nI s)), (6, .int (nI a))]) hx hb dX12_whatWas_184 hl (k := 4) rfl (z_inc (by decide)) (by decide) rfl (fun ls hl => ?_)
                          refine lv_goto (tgt := 55) hx hb dX12_whatWas_187 (by decide) ?_
                          exact ih_55 (k + 1) (st_ ||| (0 : Int32)) Gd _ _ _ (by first | assumption | omega) (by exact fun k hk => (hFd k (by omega)).trans ((g1_n (by omega)).trans ((hF3 k (by omega)).trans (hFc k (by omega))))) (by rw [z_or0]; exact hst.trans (b_set_n (fun q => by have := of_decide_eq_true q; omega)).symm) hP hS (lv_sub hl [2, 3, 4, 1, 0] rfl) (by omega)
                        · skip
                          refine lv_iconst (v := (1 : Int32)) hx hb dX12_whatWas_174 (by decide) ?_
                          refine lv_iload hx hb dX12_whatWas_175 (lv_at hl 4 rfl) ?_
                          refine lv_ishl hx hb dX12_whatWas_177 ?_
                          refine lv_goto (tgt := 182) hx hb dX12_whatWas_178 (by decide) ?_
                          refine lv_ior hx hb dX12_whatWas_182 ?_
                          refine lv_istore_n (lv' := [(3, .int (st_ ||| ((1 : Int32) <<< ((nI k) &&& 31)))), (0, .ref (E.1 92)), (1, .int (nI is)), (2, .int (nI wh)), (4, .int (nI k)), (5, .int (nI s)), (6, .int (nI a))]) hx hb dX12_whatWas_183 rfl hl (by decide) rfl (fun ls hl => ?_)
                          refine lv_iinc (v := (nI (k + 1))) (lv' := [(4, .int (nI (k + 1))), (3, .int (st_ ||| ((1 : Int32) <<< ((nI k) &&& 31)))), (0, .ref (E.1 92)), (1, .int (nI is)), (2, .int (nI wh)), (5, .int (nI s)), (6, .int (nI a))]) hx hb dX12_whatWas_184 hl (k := 4) rfl (z_inc (by decide)) (by decide) rfl (fun ls hl => ?_)
                          refine lv_goto (tgt := 55) hx hb dX12_whatWas_187 (by decide) ?_
                          exact ih_55 (k + 1) (st_ ||| ((1 : Int32) <<< ((nI k) &&& 31))) Gd _ _ _ (by first | assumption | omega) (by exact fun k hk => (hFd k (by omega)).trans ((g1_n (by omega)).trans ((hF3 k (by omega)).trans (hFc k (by omega))))) (by exact (congrArg (fun z => z ||| _) hst).trans (b_set_y (decide_eq_true (by omega))).symm) hP hS (lv_sub hl [2, 3, 4, 1, 0] rfl) (by omega)
                      · skip
                        refine lv_aload_n hx hb dX12_whatWas_119 rfl (lv_at hl 0 rfl) ?_
                        refine lv_aload_n hx hb dX12_whatWas_120 rfl (lv_at hl 0 rfl) ?_
                        refine z_get C0 hP (C := RX12) (T := TX12) (N := 21) (ci := 10) (index := 13) (k := 92) (ref := "WetSuitPedalsShoesModel") (zk_lt (rfl : zk 92 = 10) (by decide)) (zd_10 E (rfl : zk 92 = 10) _) rfl (zmi inU_12) 1 (by decide) (zm flRX12_13) rfl (v := .ref (E.1 94)) (rfl) dX12_whatWas_121 ?_
                        refine lv_iload hx hb dX12_whatWas_124 (lv_at hl 6 rfl) ?_
                        refine z_Vi C0 hP hD hA hS (As := [.ref (E.1 94), .int (nI a)]) (rest := []) (k := 92) (c_X12_finishOf l E _ 94 a n z_lit_Arr102_94 (by omega) ((congrFun ((hFd _ (by decide)).trans (g1_s _ _ _)) _).trans ((pk_un (by omega)).trans (((hcp3 0 (by omega)).trans (congrFun ((hFc _ (by decide)).trans (hM)) _)).trans (hrn)))) (by omega) (by omega)) (cwV 2 hts (zgV zbw mlRX12_156 imX12_finishOf seX12_finishOf iniRX12 coX12_finishOf) rfl rfl rfl (by decide +kernel) ⟨Nat.le_of_ble_eq_true rfl, Nat.le_of_ble_eq_true rfl⟩) (zk_lt (rfl : zk 92 = 10) (by decide)) (zd_10 E (rfl : zk 92 = 10) _) rfl rfl rfl hl.1 rfl (Nat.le_of_ble_eq_true rfl) dX12_whatWas_126 ⟨Nat.zero_le _, Nat.zero_le _⟩ (fun r8 G8 H locs hw8 hP hS => ?_)
                        obtain ⟨hr8, hF8, hrow8⟩ := hw8
                        rw [show Gd 94 = (upd (G3 94) (2 + 3 * is) (nI k)) from (hFd _ (by decide)).trans (g1_s _ _ _)] at hrow8
                        have hq8 : ∀ j, j < 102 → (upd (G3 94) (2 + 3 * is) (nI k)) j = upd r (2 + 3 * is + wh) (nI k) j := ww_row (by omega) (fun j hj => (hcp3 j hj).trans (congrFun ((hFc _ (by decide)).trans (hM)) j))
                        refine lv_istore (lv' := [(7, .int r8), (0, .ref (E.1 92)), (1, .int (nI is)), (2, .int (nI wh)), (3, .int st_), (4, .int (nI k)), (5, .int (nI s)), (6, .int (nI a))]) hx hb dX12_whatWas_129 hl (by decide) rfl (fun ls hl => ?_)
                        refine lv_iload hx hb dX12_whatWas_131 (lv_at hl 6 rfl) ?_
                        refine lv_bipush (v := (99 : Int32)) hx hb dX12_whatWas_133 (by decide) ?_
                        refine lv_aload_n hx hb dX12_whatWas_135 rfl (lv_at hl 1 rfl) ?_
                        refine z_get C0 hP (C := RX12) (T := TX12) (N := 21) (ci := 10) (index := 31) (k := 92) (ref := "WetSuitPedalsShoesModel") (zk_lt (rfl : zk 92 = 10) (by decide)) (zd_10 E (rfl : zk 92 = 10) _) rfl (zmi inU_12) 10 (by decide) (zm flRX12_31) rfl (v := .ref (E.1 100)) (rfl) dX12_whatWas_136 ?_
                        refine lv_iload_n hx hb dX12_whatWas_139 rfl (lv_at hl 2 rfl) ?_
                        refine z_iald C0 hP (k := 100) (i := is) (v := (m_sc (upd r (2 + 3 * is + wh) (nI k)) a (-1) is)) (rfl : zk 100 = 11) (Nat.lt_of_lt_of_eq (show is < 10 by omega) (rfl : zl 100 = 10).symm) rfl dX12_whatWas_140 (((hrow8 is (by omega)).1).trans (m_sc_c hq8 (by omega) (by omega))) ?_
                        refine z_Si C0 hP hD hA hS (As := [.int (99 : Int32), .int (m_sc (upd r (2 + 3 * is + wh) (nI k)) a (-1) is)]) (rest := [.int (nI s)]) (c_X12_least l E _ (99 : Int32) (m_sc (upd r (2 + 3 * is + wh) (nI k)) a (-1) is)) (va_cwS 2 hts (zgS zbw mlRX12_88 stX12_least iniRX12 coX12_least) rfl rfl rfl (by decide +kernel) ⟨Nat.le_of_ble_eq_true rfl, Nat.le_of_ble_eq_true rfl⟩) rfl hl.1 rfl (Nat.le_of_ble_eq_true rfl) dX12_whatWas_141 ⟨Nat.zero_le _, Nat.zero_le _⟩ (fun r9 G9 H locs hw9 hP hS => ?_)
                        obtain ⟨rfl, rfl⟩ := hw9
                        refine lv_aload_n hx hb dX12_whatWas_144 rfl (lv_at hl 1 rfl) ?_
                        refine z_get C0 hP (C := RX12) (T := TX12) (N := 21) (ci := 10) (index := 25) (k := 92) (ref := "WetSuitPedalsShoesModel") (zk_lt (rfl : zk 92 = 10) (by decide)) (zd_10 E (rfl : zk 92 = 10) _) rfl (zmi inU_12) 6 (by decide) (zm flRX12_25) rfl (v := .ref (E.1 98)) (rfl) dX12_whatWas_145 ?_
                        refine lv_iload hx hb dX12_whatWas_148 (lv_at hl 7 rfl) ?_
                        refine z_iald C0 hP (k := 98) (i := a) (v := (G 98 a)) (rfl : zk 98 = 11) (Nat.lt_of_lt_of_eq (show a < 12 by omega) (rfl : zl 98 = 12).symm) rfl dX12_whatWas_150 (congrFun ((hF8 _ (by decide)).trans ((hFd _ (by decide)).trans ((g1_n (by decide)).trans ((hF3 _ (by decide)).trans (hFc _ (by decide)))))) _) ?_
                        refine lv_icmp_ne (tgt := 158) hx hb dX12_whatWas_151 (by decide) (fun c_151 => ?_) (fun c_151 => ?_)
                        · skip
                          refine lv_iconst (v := (0 : Int32)) hx hb dX12_whatWas_158 (by decide) ?_
                          refine lv_iand hx hb dX12_whatWas_159 ?_
                          refine z_eqi (y := (0 : Int32)) (z_and0 _) ?_
                          refine lv_istore (lv' := [(5, .int (0 : Int32)), (7, .int r8), (0, .ref (E.1 92)), (1, .int (nI is)), (2, .int (nI wh)), (3, .int st_), (4, .int (nI k)), (6, .int (nI a))]) hx hb dX12_whatWas_160 hl (by decide) rfl (fun ls hl => ?_)
                          refine lv_iinc (v := (nI (a + 1))) (lv' := [(6, .int (nI (a + 1))), (5, .int (0 : Int32)), (7, .int r8), (0, .ref (E.1 92)), (1, .int (nI is)), (2, .int (nI wh)), (3, .int st_), (4, .int (nI k))]) hx hb dX12_whatWas_162 hl (k := 7) rfl (z_inc (by decide)) (by decide) rfl (fun ls hl => ?_)
                          refine lv_goto (tgt := 108) hx hb dX12_whatWas_165 (by decide) ?_
                          exact ih_108 (a + 1) 0 G8 _ _ _ (by first | assumption | omega) (by exact fun k hk => (hF8 k (by omega)).trans (hFd k hk)) (by exact (s_all_n (fun q => c_151 ((m_min_s _).trans (of_decide_eq_true q)))).symm) hP hS (lv_sub hl [3, 4, 5, 6, 7, 1, 0] rfl) (by omega)
                        · skip
                          refine lv_iconst (v := (1 : Int32)) hx hb dX12_whatWas_154 (by decide) ?_
                          refine lv_goto (tgt := 159) hx hb dX12_whatWas_155 (by decide) ?_
                          refine lv_iand hx hb dX12_whatWas_159 ?_
                          refine z_eqi (y := (nI s)) (z_and1 (by rw [hs]; exact s_all_le _ _)) ?_
                          refine lv_istore (lv' := [(5, .int (nI s)), (7, .int r8), (0, .ref (E.1 92)), (1, .int (nI is)), (2, .int (nI wh)), (3, .int st_), (4, .int (nI k)), (6, .int (nI a))]) hx hb dX12_whatWas_160 hl (by decide) rfl (fun ls hl => ?_)
                          refine lv_iinc (v := (nI (a + 1))) (lv' := [(6, .int (nI (a + 1))), (5, .int (nI s)), (7, .int r8), (0, .ref (E.1 92)), (1, .int (nI is)), (2, .int (nI wh)), (3, .int st_), (4, .int (nI k))]) hx hb dX12_whatWas_162 hl (k := 7) rfl (z_inc (by decide)) (by decide) rfl (fun ls hl => ?_)
                          refine lv_goto (tgt := 108) hx hb dX12_whatWas_165 (by decide) ?_
                          exact ih_108 (a + 1) s G8 _ _ _ (by first | assumption | omega) (by exact fun k hk => (hF8 k (by omega)).trans (hFd k hk)) (by rw [hs]; exact (s_all_y (decide_eq_true ((m_min_s _).symm.trans c_151))).symm) hP hS (lv_sub hl [3, 4, 5, 6, 7, 1, 0] rfl) (by omega)
                  exact cut_108 (_ + 1) 0 1 (g1 G3 94 (upd (G3 94) (2 + 3 * is) (nI k))) _ _ _ (by first | assumption | omega) (by exact fun _ _ => rfl) (by rfl) hP hS (lv_sub hl [2, 3, 4, 5, 6, 1, 0] rfl) (Nat.lt_succ_self _)
            · skip
              refine lv_bipush (v := (7 : Int32)) hx hb dX12_whatWas_61 (by decide) ?_
              refine lv_goto (tgt := 68) hx hb dX12_whatWas_63 (by decide) ?_
              refine z_N_ge hx hb (a := k) (b := 7) (tgt := 190) dX12_whatWas_68 rfl rfl (by omega) (by omega) (by decide) (fun c_68 => ?_) (fun c_68 => ?_)
              · skip
                have e9 := (show q_was r na is (G 98) wh = st_ by unfold q_was; rw [hst, show k = 7 + 3 * wh by omega])
                refine lv_iload_n hx hb dX12_whatWas_190 rfl (lv_at hl 3 rfl) ?_
                subst hQ_
                exact z_iret C0 hP hS (v := st_) (by rcases (show wh = 0 ∨ wh = 1 by omega) with h7 | h7; (subst h7; first | (exfalso; omega) | (exact zQm_of (k := 0) (by simp [A_was, hz_is, hy_is, hi3_2, hi4_2, hy_wh, c_40, c_58, c_68, e9, z_nI0, z_nI1]) (fun k hk => hFc k (by omega)) (hFc _ (by decide)))); (subst h7; first | (exfalso; omega) | (exact zQm_of (k := 0) (by simp [A_was, hz_is, hy_is, hi3_2, hi4_2, hy_wh, c_40, c_58, c_68, e9, z_nI0, z_nI1]) (fun k hk => hFc k (by omega)) (hFc _ (by decide))))) dX12_whatWas_191
              · skip
                refine lv_aload_n hx hb dX12_whatWas_71 rfl (lv_at hl 0 rfl) ?_
                refine z_get C0 hP (C := RX12) (T := TX12) (N := 21) (ci := 10) (index := 9) (k := 92) (ref := "WetSuitPedalsShoesModel") (zk_lt (rfl : zk 92 = 10) (by decide)) (zd_10 E (rfl : zk 92 = 10) _) rfl (zmi inU_12) 0 (by decide) (zm flRX12_9) rfl (v := .ref (E.1 93)) (rfl) dX12_whatWas_72 ?_
                refine lv_aload_n hx hb dX12_whatWas_75 rfl (lv_at hl 0 rfl) ?_
                refine z_get C0 hP (C := RX12) (T := TX12) (N := 21) (ci := 10) (index := 13) (k := 92) (ref := "WetSuitPedalsShoesModel") (zk_lt (rfl : zk 92 = 10) (by decide)) (zd_10 E (rfl : zk 92 = 10) _) rfl (zmi inU_12) 1 (by decide) (zm flRX12_13) rfl (v := .ref (E.1 94)) (rfl) dX12_whatWas_76 ?_
                refine z_Sv C0 hP hD hA hS (As := [.ref (E.1 93), .ref (E.1 94)]) (rest := []) (c_X12_lays l E _ 93 94 z_lit_Arr102_93 z_lit_Arr102_94 (by decide)) (va_cwS 2 hts (zgS zbw mlRX12_149 stX12_lays iniRX12 coX12_lays) rfl rfl rfl (by decide +kernel) ⟨Nat.le_of_ble_eq_true rfl, Nat.le_of_ble_eq_true rfl⟩) rfl hl.1 rfl (Nat.le_of_ble_eq_true rfl) dX12_whatWas_79 ⟨Nat.zero_le _, Nat.zero_le _⟩ (fun G10 H locs hw10 hP hS => ?_)
                obtain ⟨hF10, hcp10⟩ := hw10
                refine lv_aload_n hx hb dX12_whatWas_82 rfl (lv_at hl 0 rfl) ?_
                refine z_get C0 hP (C := RX12) (T := TX12) (N := 21) (ci := 10) (index := 13) (k := 92) (ref := "WetSuitPedalsShoesModel") (zk_lt (rfl : zk 92 = 10) (by decide)) (zd_10 E (rfl : zk 92 = 10) _) rfl (zmi inU_12) 1 (by decide) (zm flRX12_13) rfl (v := .ref (E.1 94)) (rfl) dX12_whatWas_83 ?_
                refine lv_iload_n hx hb dX12_whatWas_86 rfl (lv_at hl 1 rfl) ?_
                refine lv_iload_n hx hb dX12_whatWas_87 rfl (lv_at hl 2 rfl) ?_
                refine z_0_ne hx hb (a := wh) (tgt := 95) dX12_whatWas_88 rfl (by omega) (by decide) (fun c_88 => ?_) (fun c_88 => ?_)
                · skip
                  refine lv_iconst (v := (1 : Int32)) hx hb dX12_whatWas_95 (by decide) ?_
                  refine z_Si C0 hP hD hA hS (As := [.int (nI is), .int (1 : Int32)]) (rest := [.ref (E.1 94)]) (c_X12_of l E _ is 1) (va_cwS 2 hts (zgS zbw mlRX12_66 stX12_of iniRX12 coX12_of) rfl rfl rfl (by decide +kernel) ⟨Nat.le_of_ble_eq_true rfl, Nat.le_of_ble_eq_true rfl⟩) rfl hl.1 rfl (Nat.le_of_ble_eq_true rfl) dX12_whatWas_96 ⟨Nat.zero_le _, Nat.zero_le _⟩ (fun r11 G11 H locs hw11 hP hS => ?_)
                  obtain ⟨hr11, rfl⟩ := hw11
                  subst hr11
                  refine z_eqi (y := (nI (3 + 3 * is))) (congrArg nI (by omega)) ?_
                  refine lv_iload hx hb dX12_whatWas_99 (lv_at hl 4 rfl) ?_
                  refine z_iast C0 hP hD hS (k := 94) (i := 3 + 3 * is) (v := (nI k)) (F := G10 94) (rfl) (rfl : zk 94 = 11) (Nat.lt_of_lt_of_eq (show 3 + 3 * is < 102 by omega) (rfl : zl 94 = 102).symm) rfl dX12_whatWas_101 (fun H locs hP hS => ?_)
                  refine lv_iconst (v := (1 : Int32)) hx hb dX12_whatWas_102 (by decide) ?_
                  refine lv_istore (lv' := [(5, .int (1 : Int32)), (0, .ref (E.1 92)), (1, .int (nI is)), (2, .int (nI wh)), (3, .int st_), (4, .int (nI k))]) hx hb dX12_whatWas_103 hl (by decide) rfl (fun ls hl => ?_)
                  refine lv_iconst (v := (0 : Int32)) hx hb dX12_whatWas_105 (by decide) ?_
                  refine lv_istore (lv' := [(6, .int (0 : Int32)), (5, .int (1 : Int32)), (0, .ref (E.1 92)), (1, .int (nI is)), (2, .int (nI wh)), (3, .int st_), (4, .int (nI k))]) hx hb dX12_whatWas_106 hl (by decide) rfl (fun ls hl => ?_)
                  have cut_108 : ∀ (fuel : Nat), ∀ (a s : Nat) (Gd : zG) (H : Heap) (locs : List Loc) (ls : Array Slot), (a ≤ na) → (∀ x, (x < 100 ∨ 102 < x) → Gd x = (g1 G10 94 (upd (G10 94) (3 + 3 * is) (nI k))) x) → (s = s_all (fun a => decide (s_mn 99 (m_sc (upd r (2 + 3 * is + wh) (nI k)) a (-1) is) = G 98 a)) a) → zP E Gd H → va_S (zA E s_.heap.size) s_.heap H locs → lv_has ls 8 [(0, .ref (E.1 92)), (1, .int (nI is)), (2, .int (nI wh)), (3, .int st_), (4, .int (nI k)), (5, .int (nI s)), (6, .int (nI a))] → na - a < fuel → W p_ l e_ ({ frames := 6, cells := 0, slots := 0, locals := 142 } : Room) s_ m_ a_ b_ me_ c_ H locs 0 0 Q_ (F0 m_ 108 ls []) := by
                    intro fuel
                    induction fuel with
                    | zero =>
                      intro a s  Gd  H locs ls han hFd hs hP hS hl hfu
                      exact absurd hfu (Nat.not_lt_zero _)
                    | succ fuel ih_108 =>
                      intro a s  Gd  H locs ls han hFd hs hP hS hl hfu_108
                      refine lv_iload hx hb dX12_whatWas_108 (lv_at hl 6 rfl) ?_
                      refine lv_aload_n hx hb dX12_whatWas_110 rfl (lv_at hl 0 rfl) ?_
                      refine z_get C0 hP (C := RX12) (T := TX12) (N := 21) (ci := 10) (index := 9) (k := 92) (ref := "WetSuitPedalsShoesModel") (zk_lt (rfl : zk 92 = 10) (by decide)) (zd_10 E (rfl : zk 92 = 10) _) rfl (zmi inU_12) 0 (by decide) (zm flRX12_9) rfl (v := .ref (E.1 93)) (rfl) dX12_whatWas_111 ?_
                      refine lv_iconst (v := (1 : Int32)) hx hb dX12_whatWas_114 (by decide) ?_
                      refine z_iald C0 hP (k := 93) (i := 1) (v := (nI na)) (rfl : zk 93 = 11) (Nat.lt_of_lt_of_eq (show 1 < 102 by decide) (rfl : zl 93 = 102).symm) rfl dX12_whatWas_115 ((congrFun ((hFd _ (by decide)).trans ((g1_n (by decide)).trans ((hF10 _ (by decide)).trans ((hFc _ (by decide)).trans (hM))))) _).trans (hrna)) ?_
                      refine z_N_ge hx hb (a := a) (b := na) (tgt := 168) dX12_whatWas_116 rfl rfl (by omega) (by omega) (by decide) (fun c_116 => ?_) (fun c_116 => ?_)
                      · skip
                        have h8 : s = q_tl (upd r (2 + 3 * is + wh) (nI k)) is na (G 98) := by rw [hs, show a = na by omega]; rfl
                        have h9 := q_tl_le (upd r (2 + 3 * is + wh) (nI k)) is na (G 98)
                        refine lv_iload_n hx hb dX12_whatWas_168 rfl (lv_at hl 3 rfl) ?_
                        refine lv_iload hx hb dX12_whatWas_169 (lv_at hl 5 rfl) ?_
                        refine z_0_eq hx hb (a := s) (tgt := 181) dX12_whatWas_171 rfl (by (rw [hs]; exact Nat.lt_of_le_of_lt (s_all_le _ _) (by decide))) (by decide) (fun c_171 => ?_) (fun c_171 => ?_)
                        · skip
                          refine lv_iconst (v := (0 : Int32)) hx hb dX12_whatWas_181 (by decide) ?_
                          refine lv_ior hx hb dX12_whatWas_182 ?_
                          refine lv_istore_n (lv' := [(3, .int (st_ ||| (0 : Int32))), (0, .ref (E.1 92)), (1, .int (nI is)), (2, .int (nI wh)), (4, .int (nI k)), (5, .int (nI s)), (6, .int (nI a))]) hx hb dX12_whatWas_183 rfl hl (by decide) rfl (fun ls hl => ?_)
                          refine lv_iinc (v := (nI (k + 1))) (lv' := [(4, .int (nI (k + 1))), (3, .int (st_ ||| (0 : Int32))), (0, .ref (E.1 92)), (1, .int (nI is)), (2, .int (nI wh)), (5, .int (nI s)), (6, .int (nI a))]) hx hb dX12_whatWas_184 hl (k := 4) rfl (z_inc (by decide)) (by decide) rfl (fun ls hl => ?_)
                          refine lv_goto (tgt := 55) hx hb dX12_whatWas_187 (by decide) ?_
                          exact ih_55 (k + 1) (st_ ||| (0 : Int32)) Gd _ _ _ (by first | assumption | omega) (by exact fun k hk => (hFd k (by omega)).trans ((g1_n (by omega)).trans ((hF10 k (by omega)).trans (hFc k (by omega))))) (by rw [z_or0]; exact hst.trans (b_set_n (fun q => by have := of_decide_eq_true q; omega)).symm) hP hS (lv_sub hl [2, 3, 4, 1, 0] rfl) (by omega)
                        · skip
                          refine lv_iconst (v := (1 : Int32)) hx hb dX12_whatWas_174 (by decide) ?_
                          refine lv_iload hx hb dX12_whatWas_175 (lv_at hl 4 rfl) ?_
                          refine lv_ishl hx hb dX12_whatWas_177 ?_
                          refine lv_goto (tgt := 182) hx hb dX12_whatWas_178 (by decide) ?_
                          refine lv_ior hx hb dX12_whatWas_182 ?_
                          refine lv_istore_n (lv' := [(3, .int (st_ ||| ((1 : Int32) <<< ((nI k) &&& 31)))), (0, .ref (E.1 92)), (1, .int (nI is)), (2, .int (nI wh)), (4, .int (nI k)), (5, .int (nI s)), (6, .int (nI a))]) hx hb dX12_whatWas_183 rfl hl (by decide) rfl (fun ls hl => ?_)
                          refine lv_iinc (v := (nI (k + 1))) (lv' := [(4, .int (nI (k + 1))), (3, .int (st_ ||| ((1 : Int32) <<< ((nI k) &&& 31)))), (0, .ref (E.1 92)), (1, .int (nI is)), (2, .int (nI wh)), (5, .int (nI s)), (6, .int (nI a))]) hx hb dX12_whatWas_184 hl (k := 4) rfl (z_inc (by decide)) (by decide) rfl (fun ls hl => ?_)
                          refine lv_goto (tgt := 55) hx hb dX12_whatWas_187 (by decide) ?_
                          exact ih_55 (k + 1) (st_ ||| ((1 : Int32) <<< ((nI k) &&& 31))) Gd _ _ _ (by first | assumption | omega) (by exact fun k hk => (hFd k (by omega)).trans ((g1_n (by omega)).trans ((hF10 k (by omega)).trans (hFc k (by omega))))) (by exact (congrArg (fun z => z ||| _) hst).trans (b_set_y (decide_eq_true (by omega))).symm) hP hS (lv_sub hl [2, 3, 4, 1, 0] rfl) (by omega)
                      · skip
                        refine lv_aload_n hx hb dX12_whatWas_119 rfl (lv_at hl 0 rfl) ?_
                        refine lv_aload_n hx hb dX12_whatWas_120 rfl (lv_at hl 0 rfl) ?_
                        refine z_get C0 hP (C := RX12) (T := TX12) (N := 21) (ci := 10) (index := 13) (k := 92) (ref := "WetSuitPedalsShoesModel") (zk_lt (rfl : zk 92 = 10) (by decide)) (zd_10 E (rfl : zk 92 = 10) _) rfl (zmi inU_12) 1 (by decide) (zm flRX12_13) rfl (v := .ref (E.1 94)) (rfl) dX12_whatWas_121 ?_
                        refine lv_iload hx hb dX12_whatWas_124 (lv_at hl 6 rfl) ?_
                        refine z_Vi C0 hP hD hA hS (As := [.ref (E.1 94), .int (nI a)]) (rest := []) (k := 92) (c_X12_finishOf l E _ 94 a n z_lit_Arr102_94 (by omega) ((congrFun ((hFd _ (by decide)).trans (g1_s _ _ _)) _).trans ((pk_un (by omega)).trans (((hcp10 0 (by omega)).trans (congrFun ((hFc _ (by decide)).trans (hM)) _)).trans (hrn)))) (by omega) (by omega)) (cwV 2 hts (zgV zbw mlRX12_156 imX12_finishOf seX12_finishOf iniRX12 coX12_finishOf) rfl rfl rfl (by decide +kernel) ⟨Nat.le_of_ble_eq_true rfl, Nat.le_of_ble_eq_true rfl⟩) (zk_lt (rfl : zk 92 = 10) (by decide)) (zd_10 E (rfl : zk 92 = 10) _) rfl rfl rfl hl.1 rfl (Nat.le_of_ble_eq_true rfl) dX12_whatWas_126 ⟨Nat.zero_le _, Nat.zero_le _⟩ (fun r12 G12 H locs hw12 hP hS => ?_)
                        obtain ⟨hr12, hF12, hrow12⟩ := hw12
                        rw [show Gd 94 = (upd (G10 94) (3 + 3 * is) (nI k)) from (hFd _ (by decide)).trans (g1_s _ _ _)] at hrow12
                        have hq12 : ∀ j, j < 102 → (upd (G10 94) (3 + 3 * is) (nI k)) j = upd r (2 + 3 * is + wh) (nI k) j := ww_row (by omega) (fun j hj => (hcp10 j hj).trans (congrFun ((hFc _ (by decide)).trans (hM)) j))
                        refine lv_istore (lv' := [(7, .int r12), (0, .ref (E.1 92)), (1, .int (nI is)), (2, .int (nI wh)), (3, .int st_), (4, .int (nI k)), (5, .int (nI s)), (6, .int (nI a))]) hx hb dX12_whatWas_129 hl (by decide) rfl (fun ls hl => ?_)
                        refine lv_iload hx hb dX12_whatWas_131 (lv_at hl 6 rfl) ?_
                        refine lv_bipush (v := (99 : Int32)) hx hb dX12_whatWas_133 (by decide) ?_
                        refine lv_aload_n hx hb dX12_whatWas_135 rfl (lv_at hl 1 rfl) ?_
                        refine z_get C0 hP (C := RX12) (T := TX12) (N := 21) (ci := 10) (index := 31) (k := 92) (ref := "WetSuitPedalsShoesModel") (zk_lt (rfl : zk 92 = 10) (by decide)) (zd_10 E (rfl : zk 92 = 10) _) rfl (zmi inU_12) 10 (by decide) (zm flRX12_31) rfl (v := .ref (E.1 100)) (rfl) dX12_whatWas_136 ?_
                        refine lv_iload_n hx hb dX12_whatWas_139 rfl (lv_at hl 2 rfl) ?_
                        refine z_iald C0 hP (k := 100) (i := is) (v := (m_sc (upd r (2 + 3 * is + wh) (nI k)) a (-1) is)) (rfl : zk 100 = 11) (Nat.lt_of_lt_of_eq (show is < 10 by omega) (rfl : zl 100 = 10).symm) rfl dX12_whatWas_140 (((hrow12 is (by omega)).1).trans (m_sc_c hq12 (by omega) (by omega))) ?_
                        refine z_Si C0 hP hD hA hS (As := [.int (99 : Int32), .int (m_sc (upd r (2 + 3 * is + wh) (nI k)) a (-1) is)]) (rest := [.int (nI s)]) (c_X12_least l E _ (99 : Int32) (m_sc (upd r (2 + 3 * is + wh) (nI k)) a (-1) is)) (va_cwS 2 hts (zgS zbw mlRX12_88 stX12_least iniRX12 coX12_least) rfl rfl rfl (by decide +kernel) ⟨Nat.le_of_ble_eq_true rfl, Nat.le_of_ble_eq_true rfl⟩) rfl hl.1 rfl (Nat.le_of_ble_eq_true rfl) dX12_whatWas_141 ⟨Nat.zero_le _, Nat.zero_le _⟩ (fun r13 G13 H locs hw13 hP hS => ?_)
                        obtain ⟨rfl, rfl⟩ := hw13
                        refine lv_aload_n hx hb dX12_whatWas_144 rfl (lv_at hl 1 rfl) ?_
                        refine z_get C0 hP (C := RX12) (T := TX12) (N := 21) (ci := 10) (index := 25) (k := 92) (ref := "WetSuitPedalsShoesModel") (zk_lt (rfl : zk 92 = 10) (by decide)) (zd_10 E (rfl : zk 92 = 10) _) rfl (zmi inU_12) 6 (by decide) (zm flRX12_25) rfl (v := .ref (E.1 98)) (rfl) dX12_whatWas_145 ?_
                        refine lv_iload hx hb dX12_whatWas_148 (lv_at hl 7 rfl) ?_
                        refine z_iald C0 hP (k := 98) (i := a) (v := (G 98 a)) (rfl : zk 98 = 11) (Nat.lt_of_lt_of_eq (show a < 12 by omega) (rfl : zl 98 = 12).symm) rfl dX12_whatWas_150 (congrFun ((hF12 _ (by decide)).trans ((hFd _ (by decide)).trans ((g1_n (by decide)).trans ((hF10 _ (by decide)).trans (hFc _ (by decide)))))) _) ?_
                        refine lv_icmp_ne (tgt := 158) hx hb dX12_whatWas_151 (by decide) (fun c_151 => ?_) (fun c_151 => ?_)
                        · skip
                          refine lv_iconst (v := (0 : Int32)) hx hb dX12_whatWas_158 (by decide) ?_
                          refine lv_iand hx hb dX12_whatWas_159 ?_
                          refine z_eqi (y := (0 : Int32)) (z_and0 _) ?_
                          refine lv_istore (lv' := [(5, .int (0 : Int32)), (7, .int r12), (0, .ref (E.1 92)), (1, .int (nI is)), (2, .int (nI wh)), (3, .int st_), (4, .int (nI k)), (6, .int (nI a))]) hx hb dX12_whatWas_160 hl (by decide) rfl (fun ls hl => ?_)
                          refine lv_iinc (v := (nI (a + 1))) (lv' := [(6, .int (nI (a + 1))), (5, .int (0 : Int32)), (7, .int r12), (0, .ref (E.1 92)), (1, .int (nI is)), (2, .int (nI wh)), (3, .int st_), (4, .int (nI k))]) hx hb dX12_whatWas_162 hl (k := 7) rfl (z_inc (by decide)) (by decide) rfl (fun ls hl => ?_)
                          refine lv_goto (tgt := 108) hx hb dX12_whatWas_165 (by decide) ?_
                          exact ih_108 (a + 1) 0 G12 _ _ _ (by first | assumption | omega) (by exact fun k hk => (hF12 k (by omega)).trans (hFd k hk)) (by exact (s_all_n (fun q => c_151 ((m_min_s _).trans (of_decide_eq_true q)))).symm) hP hS (lv_sub hl [3, 4, 5, 6, 7, 1, 0] rfl) (by omega)
                        · skip
                          refine lv_iconst (v := (1 : Int32)) hx hb dX12_whatWas_154 (by decide) ?_
                          refine lv_goto (tgt := 159) hx hb dX12_whatWas_155 (by decide) ?_
                          refine lv_iand hx hb dX12_whatWas_159 ?_
                          refine z_eqi (y := (nI s)) (z_and1 (by rw [hs]; exact s_all_le _ _)) ?_
                          refine lv_istore (lv' := [(5, .int (nI s)), (7, .int r12), (0, .ref (E.1 92)), (1, .int (nI is)), (2, .int (nI wh)), (3, .int st_), (4, .int (nI k)), (6, .int (nI a))]) hx hb dX12_whatWas_160 hl (by decide) rfl (fun ls hl => ?_)
                          refine lv_iinc (v := (nI (a + 1))) (lv' := [(6, .int (nI (a + 1))), (5, .int (nI s)), (7, .int r12), (0, .ref (E.1 92)), (1, .int (nI is)), (2, .int (nI wh)), (3, .int st_), (4, .int (nI k))]) hx hb dX12_whatWas_162 hl (k := 7) rfl (z_inc (by decide)) (by decide) rfl (fun ls hl => ?_)
                          refine lv_goto (tgt := 108) hx hb dX12_whatWas_165 (by decide) ?_
                          exact ih_108 (a + 1) s G12 _ _ _ (by first | assumption | omega) (by exact fun k hk => (hF12 k (by omega)).trans (hFd k hk)) (by rw [hs]; exact (s_all_y (decide_eq_true ((m_min_s _).symm.trans c_151))).symm) hP hS (lv_sub hl [3, 4, 5, 6, 7, 1, 0] rfl) (by omega)
                  exact cut_108 (_ + 1) 0 1 (g1 G10 94 (upd (G10 94) (3 + 3 * is) (nI k))) _ _ _ (by first | assumption | omega) (by exact fun _ _ => rfl) (by rfl) hP hS (lv_sub hl [2, 3, 4, 5, 6, 1, 0] rfl) (Nat.lt_succ_self _)
                · skip
                  refine lv_iconst (v := (0 : Int32)) hx hb dX12_whatWas_91 (by decide) ?_
                  refine lv_goto (tgt := 96) hx hb dX12_whatWas_92 (by decide) ?_
                  refine z_Si C0 hP hD hA hS (As := [.int (nI is), .int (0 : Int32)]) (rest := [.ref (E.1 94)]) (c_X12_of l E _ is 0) (va_cwS 2 hts (zgS zbw mlRX12_66 stX12_of iniRX12 coX12_of) rfl rfl rfl (by decide +kernel) ⟨Nat.le_of_ble_eq_true rfl, Nat.le_of_ble_eq_true rfl⟩) rfl hl.1 rfl (Nat.le_of_ble_eq_true rfl) dX12_whatWas_96 ⟨Nat.zero_le _, Nat.zero_le _⟩ (fun r14 G14 H locs hw14 hP hS => ?_)
                  obtain ⟨hr14, rfl⟩ := hw14
                  subst hr14
                  refine z_eqi (y := (nI (2 + 3 * is))) (congrArg nI (by omega)) ?_
                  refine lv_iload hx hb dX12_whatWas_99 (lv_at hl 4 rfl) ?_
                  refine z_iast C0 hP hD hS (k := 94) (i := 2 + 3 * is) (v := (nI k)) (F := G10 94) (rfl) (rfl : zk 94 = 11) (Nat.lt_of_lt_of_eq (show 2 + 3 * is < 102 by omega) (rfl : zl 94 = 102).symm) rfl dX12_whatWas_101 (fun H locs hP hS => ?_)
                  refine lv_iconst (v := (1 : Int32)) hx hb dX12_whatWas_102 (by decide) ?_
                  refine lv_istore (lv' := [(5, .int (1 : Int32)), (0, .ref (E.1 92)), (1, .int (nI is)), (2, .int (nI wh)), (3, .int st_), (4, .int (nI k))]) hx hb dX12_whatWas_103 hl (by decide) rfl (fun ls hl => ?_)
                  refine lv_iconst (v := (0 : Int32)) hx hb dX12_whatWas_105 (by decide) ?_
                  refine lv_istore (lv' := [(6, .int (0 : Int32)), (5, .int (1 : Int32)), (0, .ref (E.1 92)), (1, .int (nI is)), (2, .int (nI wh)), (3, .int st_), (4, .int (nI k))]) hx hb dX12_whatWas_106 hl (by decide) rfl (fun ls hl => ?_)
                  have cut_108 : ∀ (fuel : Nat), ∀ (a s : Nat) (Gd : zG) (H : Heap) (locs : List Loc) (ls : Array Slot), (a ≤ na) → (∀ x, (x < 100 ∨ 102 < x) → Gd x = (g1 G10 94 (upd (G10 94) (2 + 3 * is) (nI k))) x) → (s = s_all (fun a => decide (s_mn 99 (m_sc (upd r (2 + 3 * is + wh) (nI k)) a (-1) is) = G 98 a)) a) → zP E Gd H → va_S (zA E s_.heap.size) s_.heap H locs → lv_has ls 8 [(0, .ref (E.1 92)), (1, .int (nI is)), (2, .int (nI wh)), (3, .int st_), (4, .int (nI k)), (5, .int (nI s)), (6, .int (nI a))] → na - a < fuel → W p_ l e_ ({ frames := 6, cells := 0, slots := 0, locals := 142 } : Room) s_ m_ a_ b_ me_ c_ H locs 0 0 Q_ (F0 m_ 108 ls []) := by
                    intro fuel
                    induction fuel with
                    | zero =>
                      intro a s  Gd  H locs ls han hFd hs hP hS hl hfu
                      exact absurd hfu (Nat.not_lt_zero _)
                    | succ fuel ih_108 =>
                      intro a s  Gd  H locs ls han hFd hs hP hS hl hfu_108
                      refine lv_iload hx hb dX12_whatWas_108 (lv_at hl 6 rfl) ?_
                      refine lv_aload_n hx hb dX12_whatWas_110 rfl (lv_at hl 0 rfl) ?_
                      refine z_get C0 hP (C := RX12) (T := TX12) (N := 21) (ci := 10) (index := 9) (k := 92) (ref := "WetSuitPedalsShoesModel") (zk_lt (rfl : zk 92 = 10) (by decide)) (zd_10 E (rfl : zk 92 = 10) _) rfl (zmi inU_12) 0 (by decide) (zm flRX12_9) rfl (v := .ref (E.1 93)) (rfl) dX12_whatWas_111 ?_
                      refine lv_iconst (v := (1 : Int32)) hx hb dX12_whatWas_114 (by decide) ?_
                      refine z_iald C0 hP (k := 93) (i := 1) (v := (nI na)) (rfl : zk 93 = 11) (Nat.lt_of_lt_of_eq (show 1 < 102 by decide) (rfl : zl 93 = 102).symm) rfl dX12_whatWas_115 ((congrFun ((hFd _ (by decide)).trans ((g1_n (by decide)).trans ((hF10 _ (by decide)).trans ((hFc _ (by decide)).trans (hM))))) _).trans (hrna)) ?_
                      refine z_N_ge hx hb (a := a) (b := na) (tgt := 168) dX12_whatWas_116 rfl rfl (by omega) (by omega) (by decide) (fun c_116 => ?_) (fun c_116 => ?_)
                      · skip
                        have h8 : s = q_tl (upd r (2 + 3 * is + wh) (nI k)) is na (G 98) := by rw [hs, show a = na by omega]; rfl
                        have h9 := q_tl_le (upd r (2 + 3 * is + wh) (nI k)) is na (G 98)
                        refine lv_iload_n hx hb dX12_whatWas_168 rfl (lv_at hl 3 rfl) ?_
                        refine lv_iload hx hb dX12_whatWas_169 (lv_at hl 5 rfl) ?_
                        refine z_0_eq hx hb (a := s) (tgt := 181) dX12_whatWas_171 rfl (by (rw [hs]; exact Nat.lt_of_le_of_lt (s_all_le _ _) (by decide))) (by decide) (fun c_171 => ?_) (fun c_171 => ?_)
                        · skip
                          refine lv_iconst (v := (0 : Int32)) hx hb dX12_whatWas_181 (by decide) ?_
                          refine lv_ior hx hb dX12_whatWas_182 ?_
                          refine lv_istore_n (lv' := [(3, .int (st_ ||| (0 : Int32))), (0, .ref (E.1 92)), (1, .int (nI is)), (2, .int (nI wh)), (4, .int (nI k)), (5, .int (nI s)), (6, .int (nI a))]) hx hb dX12_whatWas_183 rfl hl (by decide) rfl (fun ls hl => ?_)
                          refine lv_iinc (v := (nI (k + 1))) (lv' := [(4, .int (nI (k + 1))), (3, .int (st_ ||| (0 : Int32))), (0, .ref (E.1 92)), (1, .int (nI is)), (2, .int (nI wh)), (5, .int (nI s)), (6, .int (nI a))]) hx hb dX12_whatWas_184 hl (k := 4) rfl (z_inc (by decide)) (by decide) rfl (fun ls hl => ?_)
                          refine lv_goto (tgt := 55) hx hb dX12_whatWas_187 (by decide) ?_
                          exact ih_55 (k + 1) (st_ ||| (0 : Int32)) Gd _ _ _ (by first | assumption | omega) (by exact fun k hk => (hFd k (by omega)).trans ((g1_n (by omega)).trans ((hF10 k (by omega)).trans (hFc k (by omega))))) (by rw [z_or0]; exact hst.trans (b_set_n (fun q => by have := of_decide_eq_true q; omega)).symm) hP hS (lv_sub hl [2, 3, 4, 1, 0] rfl) (by omega)
                        · skip
                          refine lv_iconst (v := (1 : Int32)) hx hb dX12_whatWas_174 (by decide) ?_
                          refine lv_iload hx hb dX12_whatWas_175 (lv_at hl 4 rfl) ?_
                          refine lv_ishl hx hb dX12_whatWas_177 ?_
                          refine lv_goto (tgt := 182) hx hb dX12_whatWas_178 (by decide) ?_
                          refine lv_ior hx hb dX12_whatWas_182 ?_
                          refine lv_istore_n (lv' := [(3, .int (st_ ||| ((1 : Int32) <<< ((nI k) &&& 31)))), (0, .ref (E.1 92)), (1, .int (nI is)), (2, .int (nI wh)), (4, .int (nI k)), (5, .int (nI s)), (6, .int (nI a))]) hx hb dX12_whatWas_183 rfl hl (by decide) rfl (fun ls hl => ?_)
                          refine lv_iinc (v := (nI (k + 1))) (lv' := [(4, .int (nI (k + 1))), (3, .int (st_ ||| ((1 : Int32) <<< ((nI k) &&& 31)))), (0, .ref (E.1 92)), (1, .int (nI is)), (2, .int (nI wh)), (5, .int (nI s)), (6, .int (nI a))]) hx hb dX12_whatWas_184 hl (k := 4) rfl (z_inc (by decide)) (by decide) rfl (fun ls hl => ?_)
                          refine lv_goto (tgt := 55) hx hb dX12_whatWas_187 (by decide) ?_
                          exact ih_55 (k + 1) (st_ ||| ((1 : Int32) <<< ((nI k) &&& 31))) Gd _ _ _ (by first | assumption | omega) (by exact fun k hk => (hFd k (by omega)).trans ((g1_n (by omega)).trans ((hF10 k (by omega)).trans (hFc k (by omega))))) (by exact (congrArg (fun z => z ||| _) hst).trans (b_set_y (decide_eq_true (by omega))).symm) hP hS (lv_sub hl [2, 3, 4, 1, 0] rfl) (by omega)
                      · skip
                        refine lv_aload_n hx hb dX12_whatWas_119 rfl (lv_at hl 0 rfl) ?_
                        refine lv_aload_n hx hb dX12_whatWas_120 rfl (lv_at hl 0 rfl) ?_
                        refine z_get C0 hP (C := RX12) (T := TX12) (N := 21) (ci := 10) (index := 13) (k := 92) (ref := "WetSuitPedalsShoesModel") (zk_lt (rfl : zk 92 = 10) (by decide)) (zd_10 E (rfl : zk 92 = 10) _) rfl (zmi inU_12) 1 (by decide) (zm flRX12_13) rfl (v := .ref (E.1 94)) (rfl) dX12_whatWas_121 ?_
                        refine lv_iload hx hb dX12_whatWas_124 (lv_at hl 6 rfl) ?_
                        refine z_Vi C0 hP hD hA hS (As := [.ref (E.1 94), .int (nI a)]) (rest := []) (k := 92) (c_X12_finishOf l E _ 94 a n z_lit_Arr102_94 (by omega) ((congrFun ((hFd _ (by decide)).trans (g1_s _ _ _)) _).trans ((pk_un (by omega)).trans (((hcp10 0 (by omega)).trans (congrFun ((hFc _ (by decide)).trans (hM)) _)).trans (hrn)))) (by omega) (by omega)) (cwV 2 hts (zgV zbw mlRX12_156 imX12_finishOf seX12_finishOf iniRX12 coX12_finishOf) rfl rfl rfl (by decide +kernel) ⟨Nat.le_of_ble_eq_true rfl, Nat.le_of_ble_eq_true rfl⟩) (zk_lt (rfl : zk 92 = 10) (by decide)) (zd_10 E (rfl : zk 92 = 10) _) rfl rfl rfl hl.1 rfl (Nat.le_of_ble_eq_true rfl) dX12_whatWas_126 ⟨Nat.zero_le _, Nat.zero_le _⟩ (fun r15 G15 H locs hw15 hP hS => ?_)
                        obtain ⟨hr15, hF15, hrow15⟩ := hw15
                        rw [show Gd 94 = (upd (G10 94) (2 + 3 * is) (nI k)) from (hFd _ (by decide)).trans (g1_s _ _ _)] at hrow15
                        have hq15 : ∀ j, j < 102 → (upd (G10 94) (2 + 3 * is) (nI k)) j = upd r (2 + 3 * is + wh) (nI k) j := ww_row (by omega) (fun j hj => (hcp10 j hj).trans (congrFun ((hFc _ (by decide)).trans (hM)) j))
                        refine lv_istore (lv' := [(7, .int r15), (0, .ref (E.1 92)), (1, .int (nI is)), (2, .int (nI wh)), (3, .int st_), (4, .int (nI k)), (5, .int (nI s)), (6, .int (nI a))]) hx hb dX12_whatWas_129 hl (by decide) rfl (fun ls hl => ?_)
                        refine lv_iload hx hb dX12_whatWas_131 (lv_at hl 6 rfl) ?_
                        refine lv_bipush (v := (99 : Int32)) hx hb dX12_whatWas_133 (by decide) ?_
                        refine lv_aload_n hx hb dX12_whatWas_135 rfl (lv_at hl 1 rfl) ?_
                        refine z_get C0 hP (C := RX12) (T := TX12) (N := 21) (ci := 10) (index := 31) (k := 92) (ref := "WetSuitPedalsShoesModel") (zk_lt (rfl : zk 92 = 10) (by decide)) (zd_10 E (rfl : zk 92 = 10) _) rfl (zmi inU_12) 10 (by decide) (zm flRX12_31) rfl (v := .ref (E.1 100)) (rfl) dX12_whatWas_136 ?_
                        refine lv_iload_n hx hb dX12_whatWas_139 rfl (lv_at hl 2 rfl) ?_
                        refine z_iald C0 hP (k := 100) (i := is) (v := (m_sc (upd r (2 + 3 * is + wh) (nI k)) a (-1) is)) (rfl : zk 100 = 11) (Nat.lt_of_lt_of_eq (show is < 10 by omega) (rfl : zl 100 = 10).symm) rfl dX12_whatWas_140 (((hrow15 is (by omega)).1).trans (m_sc_c hq15 (by omega) (by omega))) ?_
                        refine z_Si C0 hP hD hA hS (As := [.int (99 : Int32), .int (m_sc (upd r (2 + 3 * is + wh) (nI k)) a (-1) is)]) (rest := [.int (nI s)]) (c_X12_least l E _ (99 : Int32) (m_sc (upd r (2 + 3 * is + wh) (nI k)) a (-1) is)) (va_cwS 2 hts (zgS zbw mlRX12_88 stX12_least iniRX12 coX12_least) rfl rfl rfl (by decide +kernel) ⟨Nat.le_of_ble_eq_true rfl, Nat.le_of_ble_eq_true rfl⟩) rfl hl.1 rfl (Nat.le_of_ble_eq_true rfl) dX12_whatWas_141 ⟨Nat.zero_le _, Nat.zero_le _⟩ (fun r16 G16 H locs hw16 hP hS => ?_)
                        obtain ⟨rfl, rfl⟩ := hw16
                        refine lv_aload_n hx hb dX12_whatWas_144 rfl (lv_at hl 1 rfl) ?_
                        refine z_get C0 hP (C := RX12) (T := TX12) (N := 21) (ci := 10) (index := 25) (k := 92) (ref := "WetSuitPedalsShoesModel") (zk_lt (rfl : zk 92 = 10) (by decide)) (zd_10 E (rfl : zk 92 = 10) _) rfl (zmi inU_12) 6 (by decide) (zm flRX12_25) rfl (v := .ref (E.1 98)) (rfl) dX12_whatWas_145 ?_
                        refine lv_iload hx hb dX12_whatWas_148 (lv_at hl 7 rfl) ?_
                        refine z_iald C0 hP (k := 98) (i := a) (v := (G 98 a)) (rfl : zk 98 = 11) (Nat.lt_of_lt_of_eq (show a < 12 by omega) (rfl : zl 98 = 12).symm) rfl dX12_whatWas_150 (congrFun ((hF15 _ (by decide)).trans ((hFd _ (by decide)).trans ((g1_n (by decide)).trans ((hF10 _ (by decide)).trans (hFc _ (by decide)))))) _) ?_
                        refine lv_icmp_ne (tgt := 158) hx hb dX12_whatWas_151 (by decide) (fun c_151 => ?_) (fun c_151 => ?_)
                        · skip
                          refine lv_iconst (v := (0 : Int32)) hx hb dX12_whatWas_158 (by decide) ?_
                          refine lv_iand hx hb dX12_whatWas_159 ?_
                          refine z_eqi (y := (0 : Int32)) (z_and0 _) ?_
                          refine lv_istore (lv' := [(5, .int (0 : Int32)), (7, .int r15), (0, .ref (E.1 92)), (1, .int (nI is)), (2, .int (nI wh)), (3, .int st_), (4, .int (nI k)), (6, .int (nI a))]) hx hb dX12_whatWas_160 hl (by decide) rfl (fun ls hl => ?_)
                          refine lv_iinc (v := (nI (a + 1))) (lv' := [(6, .int (nI (a + 1))), (5, .int (0 : Int32)), (7, .int r15), (0, .ref (E.1 92)), (1, .int (nI is)), (2, .int (nI wh)), (3, .int st_), (4, .int (nI k))]) hx hb dX12_whatWas_162 hl (k := 7) rfl (z_inc (by decide)) (by decide) rfl (fun ls hl => ?_)
                          refine lv_goto (tgt := 108) hx hb dX12_whatWas_165 (by decide) ?_
                          exact ih_108 (a + 1) 0 G15 _ _ _ (by first | assumption | omega) (by exact fun k hk => (hF15 k (by omega)).trans (hFd k hk)) (by exact (s_all_n (fun q => c_151 ((m_min_s _).trans (of_decide_eq_true q)))).symm) hP hS (lv_sub hl [3, 4, 5, 6, 7, 1, 0] rfl) (by omega)
                        · skip
                          refine lv_iconst (v := (1 : Int32)) hx hb dX12_whatWas_154 (by decide) ?_
                          refine lv_goto (tgt := 159) hx hb dX12_whatWas_155 (by decide) ?_
                          refine lv_iand hx hb dX12_whatWas_159 ?_
                          refine z_eqi (y := (nI s)) (z_and1 (by rw [hs]; exact s_all_le _ _)) ?_
                          refine lv_istore (lv' := [(5, .int (nI s)), (7, .int r15), (0, .ref (E.1 92)), (1, .int (nI is)), (2, .int (nI wh)), (3, .int st_), (4, .int (nI k)), (6, .int (nI a))]) hx hb dX12_whatWas_160 hl (by decide) rfl (fun ls hl => ?_)
                          refine lv_iinc (v := (nI (a + 1))) (lv' := [(6, .int (nI (a + 1))), (5, .int (nI s)), (7, .int r15), (0, .ref (E.1 92)), (1, .int (nI is)), (2, .int (nI wh)), (3, .int st_), (4, .int (nI k))]) hx hb dX12_whatWas_162 hl (k := 7) rfl (z_inc (by decide)) (by decide) rfl (fun ls hl => ?_)
                          refine lv_goto (tgt := 108) hx hb dX12_whatWas_165 (by decide) ?_
                          exact ih_108 (a + 1) s G15 _ _ _ (by first | assumption | omega) (by exact fun k hk => (hF15 k (by omega)).trans (hFd k hk)) (by rw [hs]; exact (s_all_y (decide_eq_true ((m_min_s _).symm.trans c_151))).symm) hP hS (lv_sub hl [3, 4, 5, 6, 7, 1, 0] rfl) (by omega)
                  exact cut_108 (_ + 1) 0 1 (g1 G10 94 (upd (G10 94) (2 + 3 * is) (nI k))) _ _ _ (by first | assumption | omega) (by exact fun _ _ => rfl) (by rfl) hP hS (lv_sub hl [2, 3, 4, 5, 6, 1, 0] rfl) (Nat.lt_succ_self _)
        exact cut_55 (_ + 1) 0 (0 : Int32) G _ _ _ (by first | assumption | omega) (by exact fun k hk => rfl) (by rfl) hP hS (lv_sub hl [2, 3, 4, 1, 0] rfl) (Nat.lt_succ_self _)
      · skip
        refine lv_aload_n hx hb dX12_whatWas_43 rfl (lv_at hl 0 rfl) ?_
        refine lv_bipush (v := (-3 : Int32)) hx hb dX12_whatWas_44 (by decide) ?_
        refine z_Vi C0 hP hD hA hS (As := [.int (-3 : Int32)]) (rest := []) (k := 92) (c_X12_no l E _ (-3 : Int32) 3 (by decide) (by decide)) (cwV 1 hts (zgV zbw mlRX12_56 imX12_no seX12_no iniRX12 coX12_no) rfl rfl rfl (by decide +kernel) ⟨Nat.le_of_ble_eq_true rfl, Nat.le_of_ble_eq_true rfl⟩) (zk_lt (rfl : zk 92 = 10) (by decide)) (zd_10 E (rfl : zk 92 = 10) _) rfl rfl rfl hl.1 rfl (Nat.le_of_ble_eq_true rfl) dX12_whatWas_46 ⟨Nat.zero_le _, Nat.zero_le _⟩ (fun r17 G17 H locs hw17 hP hS => ?_)
        obtain ⟨rfl, rfl⟩ := hw17
        subst hQ_
        exact z_iret C0 hP hS (v := (-3 : Int32)) (by exact zQm_of (k := 3) (by simp [A_was, hz_is, hy_is, hi3_2, hi4_2, hy_wh, c_40]) (fun k hk => g1_n (by omega)) (g1_s _ _ _)) dX12_whatWas_49
    · skip
      have hi5_2 := z_nin hi0_2
      refine lv_if_ne (tgt := 30) hx hb dX12_whatWas_20 (by decide) (fun h_ => absurd (by decide) h_) (fun _ => ?_)
      refine lv_aload_n hx hb dX12_whatWas_23 rfl (lv_at hl 0 rfl) ?_
      refine lv_bipush (v := (-2 : Int32)) hx hb dX12_whatWas_24 (by decide) ?_
      refine z_Vi C0 hP hD hA hS (As := [.int (-2 : Int32)]) (rest := []) (k := 92) (c_X12_no l E _ (-2 : Int32) 2 (by decide) (by decide)) (cwV 1 hts (zgV zbw mlRX12_56 imX12_no seX12_no iniRX12 coX12_no) rfl rfl rfl (by decide +kernel) ⟨Nat.le_of_ble_eq_true rfl, Nat.le_of_ble_eq_true rfl⟩) (zk_lt (rfl : zk 92 = 10) (by decide)) (zd_10 E (rfl : zk 92 = 10) _) rfl rfl rfl hl.1 rfl (Nat.le_of_ble_eq_true rfl) dX12_whatWas_26 ⟨Nat.zero_le _, Nat.zero_le _⟩ (fun r18 G18 H locs hw18 hP hS => ?_)
      obtain ⟨rfl, rfl⟩ := hw18
      subst hQ_
      exact z_iret C0 hP hS (v := (-2 : Int32)) (by exact zQm_of (k := 2) (by simp [A_was, hz_is, hy_is, hi5_2]) (fun k hk => g1_n (by omega)) (g1_s _ _ _)) dX12_whatWas_29
  · skip
    have hz_is := zin_f (by omega) hno1
    refine lv_if_ne (tgt := 14) hx hb dX12_whatWas_5 (by decide) (fun h_ => absurd (by decide) h_) (fun _ => ?_)
    refine lv_aload_n hx hb dX12_whatWas_8 rfl (lv_at hl 0 rfl) ?_
    refine lv_iconst (v := (-1 : Int32)) hx hb dX12_whatWas_9 (by decide) ?_
    refine z_Vi C0 hP hD hA hS (As := [.int (-1 : Int32)]) (rest := []) (k := 92) (c_X12_no l E _ (-1 : Int32) 1 (by decide) (by decide)) (cwV 1 hts (zgV zbw mlRX12_56 imX12_no seX12_no iniRX12 coX12_no) rfl rfl rfl (by decide +kernel) ⟨Nat.le_of_ble_eq_true rfl, Nat.le_of_ble_eq_true rfl⟩) (zk_lt (rfl : zk 92 = 10) (by decide)) (zd_10 E (rfl : zk 92 = 10) _) rfl rfl rfl hl.1 rfl (Nat.le_of_ble_eq_true rfl) dX12_whatWas_10 ⟨Nat.zero_le _, Nat.zero_le _⟩ (fun r19 G19 H locs hw19 hP hS => ?_)
    obtain ⟨rfl, rfl⟩ := hw19
    subst hQ_
    exact z_iret C0 hP hS (v := (-1 : Int32)) (by exact zQm_of (k := 1) (by simp [A_was, hz_is]) (fun k hk => g1_n (by omega)) (g1_s _ _ _)) dX12_whatWas_13
