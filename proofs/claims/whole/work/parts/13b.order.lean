/-! laid by wip/whole/vcg.py -/
theorem flRX11_214 : Cond.fieldLink RX11 214 "WetSuitPedalsShoes$Trial" "course" "LWetSuitPedalsShoes$Course;" ∈ zU := zU_m 185 (by decide +kernel) rfl
set_option maxHeartbeats 4000000 in
set_option maxRecDepth 100000 in
theorem c_X11_order (l : Launch) (E : zE) (G : zG) (r : Nat → Int32) (n na : Nat) (athlete : Int32) (hR : zFA G 1 r n na) (hn10 : n ≤ 10) (hna : na ≤ 5) (hp : zPl G) (hkd : zKd r n) : zMi l yX11_order wsX11_order ({ frames := 5, cells := 0, slots := 0, locals := 111 } : Room) E G [.ref (E.1 0), .int athlete] (fun r1 G1 => zQc (A_order r n na athlete) G r1 G1) := by
  refine zOf (cc := cX11_order) (nL := 7) (ret := (some .int)) RX11 (by decide) rfl rfl (Nat.le_of_ble_eq_true rfl) ?_
  intro p_ e_ s_ m_ a_ b_ me_ c_ ls C0 hP hS hl
  have hx := C0.1
  have hb := C0.2.1
  have hts := C0.2.2.2.2.1
  have hD : zD E (zA E s_.heap.size) := C0.2.2.2.2.2.2.2.2
  have hA : ∀ q : Nat, s_.heap.size ≤ q → zA E s_.heap.size q := fun q h => Or.inr h
  refine z_gen (fun Q_ hQ_ => ?_)
  have hl : lv_has ls 7 [(0, .ref (E.1 0)), (1, .int athlete)] := hl
  refine lv_aload_n hx hb dX11_order_0 rfl (lv_at hl 0 rfl) ?_
  refine z_get C0 hP (C := RX11) (T := TX11) (N := 11) (ci := 9) (index := 10) (k := 0) (ref := "WetSuitPedalsShoes") (zk_lt (rfl : zk 0 = 9) (by decide)) (zd_9 E (rfl : zk 0 = 9) _) rfl (zmi inU_11) 0 (by decide) (zm flRX11_10) rfl (v := .ref (E.1 1)) (rfl) dX11_order_1 ?_
  refine lv_iload_n hx hb dX11_order_4 rfl (lv_at hl 1 rfl) ?_
  refine z_Vi C0 hP hD hA hS (As := [.int athlete]) (rest := []) (k := 1) (c_X3_has l E _ 1 na athlete z_lit_Fie_1 (hR.2.1) (by omega)) (cwV 1 hts (zgV zbw mlRX11_117 imX3_has seX3_has iniRX3 coX3_has) rfl rfl rfl (by decide +kernel) ⟨Nat.le_of_ble_eq_true rfl, Nat.le_of_ble_eq_true rfl⟩) (zk_lt (rfl : zk 1 = 3) (by decide)) (zd_3 E (rfl : zk 1 = 3) _) rfl rfl rfl hl.1 rfl (Nat.le_of_ble_eq_true rfl) dX11_order_5 ⟨Nat.zero_le _, Nat.zero_le _⟩ (fun r1 G1 H locs hw1 hP hS => ?_)
  rcases hw1 with ⟨rfl, rfl, ia, hia, rfl⟩ | ⟨rfl, rfl, hno1⟩
  · skip
    have hz_ia := zin_t hia (by omega)
    have hy_ia : zix (nI ia) = ia := zix_n (by omega)
    refine lv_if_ne (tgt := 17) hx hb dX11_order_8 (by decide) (fun _ => ?_) (fun h_ => absurd h_ (by decide))
    refine lv_aload_n hx hb dX11_order_17 rfl (lv_at hl 0 rfl) ?_
    refine lv_iload_n hx hb dX11_order_18 rfl (lv_at hl 1 rfl) ?_
    refine z_Vi C0 hP hD hA hS (As := [.int (nI ia)]) (rest := []) (k := 0) (c_X11_runPlan l E _ r n na ia hR hkd hn10 hna (by omega)) (cwV 1 hts (zgV zbw mlRX11_142 imX11_runPlan seX11_runPlan iniRX11 coX11_runPlan) rfl rfl rfl (by decide +kernel) ⟨Nat.le_of_ble_eq_true rfl, Nat.le_of_ble_eq_true rfl⟩) (zk_lt (rfl : zk 0 = 9) (by decide)) (zd_9 E (rfl : zk 0 = 9) _) rfl rfl rfl hl.1 rfl (Nat.le_of_ble_eq_true rfl) dX11_order_19 ⟨Nat.zero_le _, Nat.zero_le _⟩ (fun r2 G2 H locs hw2 hP hS => ?_)
    obtain ⟨hr2, hF2, hTA2, hdr2, h32⟩ := hw2
    subst hr2
    refine lv_istore_n (lv' := [(2, .int (q_fin r n ia)), (0, .ref (E.1 0)), (1, .int (nI ia))]) hx hb dX11_order_22 rfl hl (by decide) rfl (fun ls hl => ?_)
    refine lv_bipush (v := (-9 : Int32)) hx hb dX11_order_23 (by decide) ?_
    refine lv_istore_n (lv' := [(3, .int (-9 : Int32)), (2, .int (q_fin r n ia)), (0, .ref (E.1 0)), (1, .int (nI ia))]) hx hb dX11_order_25 rfl hl (by decide) rfl (fun ls hl => ?_)
    refine lv_iconst (v := (0 : Int32)) hx hb dX11_order_26 (by decide) ?_
    refine lv_istore (lv' := [(4, .int (0 : Int32)), (3, .int (-9 : Int32)), (2, .int (q_fin r n ia)), (0, .ref (E.1 0)), (1, .int (nI ia))]) hx hb dX11_order_27 hl (by decide) rfl (fun ls hl => ?_)
    have cut_29 : ∀ (fuel : Nat), ∀ (i : Nat) (b z : Int32) (Gc : zG) (H : Heap) (locs : List Loc) (ls : Array Slot), (i ≤ n) → (∀ k, (k < 48 ∨ 58 < k) → Gc k = G k) → (zTA Gc 48 r ia n) → (Gc 48 2 = -9) → ((b, z) = o_out (q_ord r n ia) n (q_fin r n ia, -9) i) → zP E Gc H → va_S (zA E s_.heap.size) s_.heap H locs → lv_has ls 7 [(0, .ref (E.1 0)), (1, .int (nI ia)), (2, .int b), (3, .int z), (4, .int (nI i))] → n - i < fuel → W p_ l e_ ({ frames := 5, cells := 0, slots := 0, locals := 111 } : Room) s_ m_ a_ b_ me_ c_ H locs 0 0 Q_ (F0 m_ 29 ls []) := by
      intro fuel
      induction fuel with
      | zero =>
        intro i  b z  Gc  H locs ls hin hFc hTAc hdc hob hP hS hl hfu
        exact absurd hfu (Nat.not_lt_zero _)
      | succ fuel ih_29 =>
        intro i  b z  Gc  H locs ls hin hFc hTAc hdc hob hP hS hl hfu_29
        refine lv_iload hx hb dX11_order_29 (lv_at hl 4 rfl) ?_
        refine lv_aload_n hx hb dX11_order_31 rfl (lv_at hl 0 rfl) ?_
        refine z_get C0 hP (C := RX11) (T := TX11) (N := 11) (ci := 9) (index := 10) (k := 0) (ref := "WetSuitPedalsShoes") (zk_lt (rfl : zk 0 = 9) (by decide)) (zd_9 E (rfl : zk 0 = 9) _) rfl (zmi inU_11) 0 (by decide) (zm flRX11_10) rfl (v := .ref (E.1 1)) (rfl) dX11_order_32 ?_
        refine z_get C0 hP (C := RX3) (T := TX3) (N := 3) (ci := 3) (index := 93) (k := 1) (ref := "WetSuitPedalsShoes$Field") (zk_lt (rfl : zk 1 = 3) (by decide)) (zd_3 E (rfl : zk 1 = 3) _) rfl (zmi inU_3) 0 (by decide) (zm flRX11_93) rfl (v := .ref (E.1 2)) (rfl) dX11_order_35 ?_
        refine z_get C0 hP (C := RX1) (T := TX1) (N := 4) (ci := 1) (index := 138) (k := 2) (ref := "WetSuitPedalsShoes$Course") (zk_lt (rfl : zk 2 = 1) (by decide)) (zd_1 E (rfl : zk 2 = 1) _) rfl (zmi inU_1) 0 (by decide) (zm flRX11_138) rfl (v := .int (nI n)) (congrArg (fun z => some (Value.int z)) ((congrFun (hFc _ (by decide)) _).trans (hR.1))) dX11_order_38 ?_
        refine z_N_ge hx hb (a := i) (b := n) (tgt := 132) dX11_order_41 rfl rfl (by omega) (by omega) (by decide) (fun c_41 => ?_) (fun c_41 => ?_)
        · skip
          have e9 := o_end hob (by omega)
          refine lv_iload_n hx hb dX11_order_132 rfl (lv_at hl 3 rfl) ?_
          subst hQ_
          exact z_iret C0 hP hS (v := z) (by exact zQc_of (k := 0) (by simp [A_order, hz_ia, hy_ia, c_41, e9]) (fun k hk => hFc k (by omega)) (hFc _ (by decide)) (z_plk (hFc _ (by decide)) hp)) dX11_order_133
        · skip
          refine lv_iload hx hb dX11_order_44 (lv_at hl 4 rfl) ?_
          refine lv_iconst (v := (1 : Int32)) hx hb dX11_order_46 (by decide) ?_
          refine z_iadd hx hb (a := i) (b := 1) (n := i + 1) dX11_order_47 rfl rfl rfl ?_
          refine lv_istore (lv' := [(5, .int (nI (i + 1))), (0, .ref (E.1 0)), (1, .int (nI ia)), (2, .int b), (3, .int z), (4, .int (nI i))]) hx hb dX11_order_48 hl (by decide) rfl (fun ls hl => ?_)
          have cut_50 : ∀ (fuel : Nat), ∀ (k : Nat) (b z : Int32) (Gc : zG) (H : Heap) (locs : List Loc) (ls : Array Slot), (i + 1 + k ≤ n) → (∀ k, (k < 48 ∨ 58 < k) → Gc k = G k) → (zTA Gc 48 r ia n) → (Gc 48 2 = -9) → ((b, z) = o_in (q_ord r n ia i) i (o_out (q_ord r n ia) n (q_fin r n ia, -9) i) k) → zP E Gc H → va_S (zA E s_.heap.size) s_.heap H locs → lv_has ls 7 [(0, .ref (E.1 0)), (1, .int (nI ia)), (2, .int b), (3, .int z), (4, .int (nI i)), (5, .int (nI (i + 1 + k)))] → n - k < fuel → W p_ l e_ ({ frames := 5, cells := 0, slots := 0, locals := 111 } : Room) s_ m_ a_ b_ me_ c_ H locs 0 0 Q_ (F0 m_ 50 ls []) := by
            intro fuel
            induction fuel with
            | zero =>
              intro k  b z  Gc  H locs ls hik hFc hTAc hdc hb2 hP hS hl hfu
              exact absurd hfu (Nat.not_lt_zero _)
            | succ fuel ih_50 =>
              intro k  b z  Gc  H locs ls hik hFc hTAc hdc hb2 hP hS hl hfu_50
              refine lv_iload hx hb dX11_order_50 (lv_at hl 5 rfl) ?_
              refine lv_aload_n hx hb dX11_order_52 rfl (lv_at hl 0 rfl) ?_
              refine z_get C0 hP (C := RX11) (T := TX11) (N := 11) (ci := 9) (index := 10) (k := 0) (ref := "WetSuitPedalsShoes") (zk_lt (rfl : zk 0 = 9) (by decide)) (zd_9 E (rfl : zk 0 = 9) _) rfl (zmi inU_11) 0 (by decide) (zm flRX11_10) rfl (v := .ref (E.1 1)) (rfl) dX11_order_53 ?_
              refine z_get C0 hP (C := RX3) (T := TX3) (N := 3) (ci := 3) (index := 93) (k := 1) (ref := "WetSuitPedalsShoes$Field") (zk_lt (rfl : zk 1 = 3) (by decide)) (zd_3 E (rfl : zk 1 = 3) _) rfl (zmi inU_3) 0 (by decide) (zm flRX11_93) rfl (v := .ref (E.1 2)) (rfl) dX11_order_56 ?_
              refine z_get C0 hP (C := RX1) (T := TX1) (N := 4) (ci := 1) (index := 138) (k := 2) (ref := "WetSuitPedalsShoes$Course") (zk_lt (rfl : zk 2 = 1) (by decide)) (zd_1 E (rfl : zk 2 = 1) _) rfl (zmi inU_1) 0 (by decide) (zm flRX11_138) rfl (v := .int (nI n)) (congrArg (fun z => some (Value.int z)) ((congrFun (hFc _ (by decide)) _).trans (hR.1))) dX11_order_59 ?_
              refine z_N_ge hx hb (a := i + 1 + k) (b := n) (tgt := 126) dX11_order_62 rfl rfl (by omega) (by omega) (by decide) (fun c_62 => ?_) (fun c_62 => ?_)
              · skip
                refine lv_iinc (v := (nI (i + 1))) (lv' := [(4, .int (nI (i + 1))), (0, .ref (E.1 0)), (1, .int (nI ia)), (2, .int b), (3, .int z), (5, .int (nI (i + 1 + k)))]) hx hb dX11_order_126 hl (k := 4) rfl (z_inc (by decide)) (by decide) rfl (fun ls hl => ?_)
                refine lv_goto (tgt := 29) hx hb dX11_order_129 (by decide) ?_
                exact ih_29 (i + 1) b z Gc _ _ _ (by first | assumption | omega) (by exact fun k hk => hFc k (by omega)) (by exact hTAc) (by exact hdc) (by have e9 : n - (i + 1) = k := (by omega); exact hb2.trans (congrArg (o_in _ _ _) e9.symm)) hP hS (lv_sub hl [1, 2, 3, 4, 0] rfl) (by omega)
              · skip
                refine lv_aload_n hx hb dX11_order_65 rfl (lv_at hl 0 rfl) ?_
                refine z_get C0 hP (C := RX11) (T := TX11) (N := 11) (ci := 9) (index := 44) (k := 0) (ref := "WetSuitPedalsShoes") (zk_lt (rfl : zk 0 = 9) (by decide)) (zd_9 E (rfl : zk 0 = 9) _) rfl (zmi inU_11) 6 (by decide) (zm flRX11_44) rfl (v := .ref (E.1 48)) (rfl) dX11_order_66 ?_
                refine z_get C0 hP (C := RX10) (T := TX10) (N := 6) (ci := 8) (index := 214) (k := 48) (ref := "WetSuitPedalsShoes$Trial") (zk_lt (rfl : zk 48 = 8) (by decide)) (zd_8 E (rfl : zk 48 = 8) _) rfl (zmi inU_10) 0 (by decide) (zm flRX11_214) rfl (v := .ref (E.1 49)) (rfl) dX11_order_69 ?_
                refine lv_iload hx hb dX11_order_72 (lv_at hl 4 rfl) ?_
                refine lv_iload hx hb dX11_order_74 (lv_at hl 5 rfl) ?_
                refine z_Vv C0 hP hD hA hS (As := [.int (nI i), .int (nI (i + 1 + k))]) (rest := []) (k := 49) (c_X1_exchange l E _ 49 n i (i + 1 + k) z_lit_Cou_49 (hTAc.1) (by omega) (by omega) (by omega)) (cwV 2 hts (zgV zbw mlRX11_134 imX1_exchange seX1_exchange iniRX1 coX1_exchange) rfl rfl rfl (by decide +kernel) ⟨Nat.le_of_ble_eq_true rfl, Nat.le_of_ble_eq_true rfl⟩) (zk_lt (rfl : zk 49 = 1) (by decide)) (zd_1 E (rfl : zk 49 = 1) _) rfl rfl rfl hl.1 rfl (Nat.le_of_ble_eq_true rfl) dX11_order_76 ⟨Nat.zero_le _, Nat.zero_le _⟩ (fun G3 H locs hw3 hP hS => ?_)
                obtain hw3 := hw3
                have hE3 : _ = G3 := hw3
                have hF3 : ∀ k, (k < 50 ∨ 52 < k) → G3 k = Gc k := fun k hk => by rw [← hE3, g1_n (by omega), g1_n (by omega), g1_n (by omega)]
                have hTA3 := zTA_chg (t := 48) (i := i) (k := (i + 1 + k)) hTAc (by omega) (by omega) (by omega)
                replace hTA3 : zTA G3 48 (s_chg r i (i + 1 + k) 3) ia n := by rw [← hE3]; exact hTA3
                refine lv_aload_n hx hb dX11_order_79 rfl (lv_at hl 0 rfl) ?_
                refine z_get C0 hP (C := RX11) (T := TX11) (N := 11) (ci := 9) (index := 44) (k := 0) (ref := "WetSuitPedalsShoes") (zk_lt (rfl : zk 0 = 9) (by decide)) (zd_9 E (rfl : zk 0 = 9) _) rfl (zmi inU_11) 6 (by decide) (zm flRX11_44) rfl (v := .ref (E.1 48)) (rfl) dX11_order_80 ?_
                refine z_Vi C0 hP hD hA hS (As := []) (rest := []) (k := 48) (c_X10_run l E _ 48 n z_lit_Tri_48 ((congrFun (hF3 _ (by decide)) _).trans (hTAc.1)) (by omega)) (cwV 0 hts (zgV zbw mlRX11_168 imX10_run seX10_run iniRX10 coX10_run) rfl rfl rfl (by decide +kernel) ⟨Nat.le_of_ble_eq_true rfl, Nat.le_of_ble_eq_true rfl⟩) (zk_lt (rfl : zk 48 = 8) (by decide)) (zd_8 E (rfl : zk 48 = 8) _) rfl rfl rfl hl.1 rfl (Nat.le_of_ble_eq_true rfl) dX11_order_83 ⟨Nat.zero_le _, Nat.zero_le _⟩ (fun r4 G4 H locs hw4 hP hS => ?_)
                obtain ⟨hr4, hF4, hrow4⟩ := hw4
                have h94 := zTA_ran9 hTA3 (zKd_chg hkd (by omega) (by omega) (by omega)) hn10 hr4 hrow4 ((congrFun (hF3 _ (by decide)) _).trans (hdc))
                have hr4 : q_ord r n ia i (i + 1 + k) = _ := h94.1
                subst hr4
                have hTA4 := zTA_fr hTA3 hF4
                refine lv_istore (lv' := [(6, .int (q_ord r n ia i (i + 1 + k))), (0, .ref (E.1 0)), (1, .int (nI ia)), (2, .int b), (3, .int z), (4, .int (nI i)), (5, .int (nI (i + 1 + k)))]) hx hb dX11_order_86 hl (by decide) rfl (fun ls hl => ?_)
                refine lv_aload_n hx hb dX11_order_88 rfl (lv_at hl 1 rfl) ?_
                refine z_get C0 hP (C := RX11) (T := TX11) (N := 11) (ci := 9) (index := 44) (k := 0) (ref := "WetSuitPedalsShoes") (zk_lt (rfl : zk 0 = 9) (by decide)) (zd_9 E (rfl : zk 0 = 9) _) rfl (zmi inU_11) 6 (by decide) (zm flRX11_44) rfl (v := .ref (E.1 48)) (rfl) dX11_order_89 ?_
                refine z_get C0 hP (C := RX10) (T := TX10) (N := 6) (ci := 8) (index := 214) (k := 48) (ref := "WetSuitPedalsShoes$Trial") (zk_lt (rfl : zk 48 = 8) (by decide)) (zd_8 E (rfl : zk 48 = 8) _) rfl (zmi inU_10) 0 (by decide) (zm flRX11_214) rfl (v := .ref (E.1 49)) (rfl) dX11_order_92 ?_
                refine lv_iload hx hb dX11_order_95 (lv_at hl 5 rfl) ?_
                refine lv_iload hx hb dX11_order_97 (lv_at hl 6 rfl) ?_
                refine z_Vv C0 hP hD hA hS (As := [.int (nI i), .int (nI (i + 1 + k))]) (rest := []) (k := 49) (c_X1_exchange l E _ 49 n i (i + 1 + k) z_lit_Cou_49 ((congrFun ((hF4 _ (by decide)).trans (hF3 _ (by decide))) _).trans (hTAc.1)) (by omega) (by omega) (by omega)) (cwV 2 hts (zgV zbw mlRX11_134 imX1_exchange seX1_exchange iniRX1 coX1_exchange) rfl rfl rfl (by decide +kernel) ⟨Nat.le_of_ble_eq_true rfl, Nat.le_of_ble_eq_true rfl⟩) (zk_lt (rfl : zk 49 = 1) (by decide)) (zd_1 E (rfl : zk 49 = 1) _) rfl rfl rfl hl.1 rfl (Nat.le_of_ble_eq_true rfl) dX11_order_99 ⟨Nat.zero_le _, Nat.zero_le _⟩ (fun G5 H locs hw5 hP hS => ?_)
                obtain hw5 := hw5
                have hE5 : _ = G5 := hw5
                have hF5 : ∀ k, (k < 50 ∨ 52 < k) → G5 k = G4 k := fun k hk => by rw [← hE5, g1_n (by omega), g1_n (by omega), g1_n (by omega)]
                have hTA5 := zTA_chg (t := 48) (i := i) (k := (i + 1 + k)) hTA4 (by omega) (by omega) (by omega)
                rw [s_chg_inv (by omega) (by omega) (by omega)] at hTA5
                replace hTA5 : zTA G5 48 r ia n := by rw [← hE5]; exact hTA5
                refine lv_iload hx hb dX11_order_102 (lv_at hl 0 rfl) ?_
                refine lv_iload_n hx hb dX11_order_104 rfl (lv_at hl 3 rfl) ?_
                refine lv_icmp_ge (tgt := 120) hx hb dX11_order_105 (by decide) (fun c_105 => ?_) (fun c_105 => ?_)
                · skip
                  have d_105 := Int32.not_lt.mpr c_105
                  have hb2 := o_in_n hb2 d_105
                  refine lv_iinc (v := (nI (i + 1 + k + 1))) (lv' := [(5, .int (nI (i + 1 + k + 1))), (6, .int (q_ord r n ia i (i + 1 + k))), (0, .ref (E.1 0)), (1, .int (nI ia)), (2, .int b), (3, .int z), (4, .int (nI i))]) hx hb dX11_order_120 hl (k := 6) rfl (z_inc (by decide)) (by decide) rfl (fun ls hl => ?_)
                  refine lv_goto (tgt := 50) hx hb dX11_order_123 (by decide) ?_
                  exact ih_50 (k + 1) b z G5 _ _ _ (by first | assumption | omega) (by exact fun k hk => (hF5 k (by omega)).trans ((hF4 k (by omega)).trans ((hF3 k (by omega)).trans (hFc k (by omega))))) (by exact hTA5) (by exact (congrFun ((hF5 _ (by decide)).trans ((hF4 _ (by decide)).trans (hF3 _ (by decide)))) _).trans (hdc)) (by exact hb2) hP hS (lv_sub hl [2, 3, 4, 5, 6, 0] rfl) (by omega)
                · skip
                  have d_105 := Int32.not_le.mp c_105
                  have hb2 := o_in_y hb2 d_105
                  refine lv_iload hx hb dX11_order_108 (lv_at hl 0 rfl) ?_
                  refine lv_istore_n (lv' := [(2, .int (q_ord r n ia i (i + 1 + k))), (6, .int (q_ord r n ia i (i + 1 + k))), (0, .ref (E.1 0)), (1, .int (nI ia)), (3, .int z), (4, .int (nI i)), (5, .int (nI (i + 1 + k)))]) hx hb dX11_order_110 rfl hl (by decide) rfl (fun ls hl => ?_)
                  refine lv_bipush (v := (10 : Int32)) hx hb dX11_order_111 (by decide) ?_
                  refine lv_iload hx hb dX11_order_113 (lv_at hl 5 rfl) ?_
                  refine z_imul hx hb (a := 10) (b := i) (n := 10 * i) dX11_order_115 rfl rfl rfl ?_
                  refine lv_iload hx hb dX11_order_116 (lv_at hl 6 rfl) ?_
                  refine z_iadd hx hb (a := 10 * i) (b := i + 1 + k) (n := (10 * i) + (i + 1 + k)) dX11_order_118 rfl rfl rfl ?_
                  refine lv_istore_n (lv' := [(3, .int (nI ((10 * i) + (i + 1 + k)))), (2, .int (q_ord r n ia i (i + 1 + k))), (6, .int (q_ord r n ia i (i + 1 + k))), (0, .ref (E.1 0)), (1, .int (nI ia)), (4, .int (nI i)), (5, .int (nI (i + 1 + k)))]) hx hb dX11_order_119 rfl hl (by decide) rfl (fun ls hl => ?_)
                  refine lv_iinc (v := (nI (i + 1 + k + 1))) (lv' := [(5, .int (nI (i + 1 + k + 1))), (3, .int (nI ((10 * i) + (i + 1 + k)))), (2, .int (q_ord r n ia i (i + 1 + k))), (6, .int (q_ord r n ia i (i + 1 + k))), (0, .ref (E.1 0)), (1, .int (nI ia)), (4, .int (nI i))]) hx hb dX11_order_120 hl (k := 6) rfl (z_inc (by decide)) (by decide) rfl (fun ls hl => ?_)
                  refine lv_goto (tgt := 50) hx hb dX11_order_123 (by decide) ?_
                  exact ih_50 (k + 1) (q_ord r n ia i (i + 1 + k)) (nI ((10 * i) + (i + 1 + k))) G5 _ _ _ (by first | assumption | omega) (by exact fun k hk => (hF5 k (by omega)).trans ((hF4 k (by omega)).trans ((hF3 k (by omega)).trans (hFc k (by omega))))) (by exact hTA5) (by exact (congrFun ((hF5 _ (by decide)).trans ((hF4 _ (by decide)).trans (hF3 _ (by decide)))) _).trans (hdc)) (by exact hb2) hP hS (lv_sub hl [4, 5, 2, 1, 6, 0] rfl) (by omega)
          exact cut_50 (_ + 1) 0 b z Gc _ _ _ (by first | assumption | omega) (by exact fun k hk => hFc k (by omega)) (by exact hTAc) (by exact hdc) (by exact hob) hP hS (lv_sub hl [1, 2, 3, 4, 5, 0] rfl) (Nat.lt_succ_self _)
    exact cut_29 (_ + 1) 0 (q_fin r n ia) (-9 : Int32) G2 _ _ _ (by first | assumption | omega) (by exact fun k hk => hF2 k (by omega)) (by exact hTA2) (by exact hdr2) (by rfl) hP hS (lv_sub hl [3, 4, 2, 1, 0] rfl) (Nat.lt_succ_self _)
  · skip
    have hz_ia := zin_f (by omega) hno1
    refine lv_if_ne (tgt := 17) hx hb dX11_order_8 (by decide) (fun h_ => absurd (by decide) h_) (fun _ => ?_)
    refine lv_aload_n hx hb dX11_order_11 rfl (lv_at hl 0 rfl) ?_
    refine lv_iconst (v := (-1 : Int32)) hx hb dX11_order_12 (by decide) ?_
    refine z_Vi C0 hP hD hA hS (As := [.int (-1 : Int32)]) (rest := []) (k := 0) (c_X11_refuse l E _ (-1 : Int32) 1 (by decide) (by decide) (by decide)) (cwV 1 hts (zgV zbw mlRX11_72 imX11_refuse seX11_refuse iniRX11 coX11_refuse) rfl rfl rfl (by decide +kernel) ⟨Nat.le_of_ble_eq_true rfl, Nat.le_of_ble_eq_true rfl⟩) (zk_lt (rfl : zk 0 = 9) (by decide)) (zd_9 E (rfl : zk 0 = 9) _) rfl rfl rfl hl.1 rfl (Nat.le_of_ble_eq_true rfl) dX11_order_13 ⟨Nat.zero_le _, Nat.zero_le _⟩ (fun r6 G6 H locs hw6 hP hS => ?_)
    obtain ⟨rfl, rfl⟩ := hw6
    subst hQ_
    exact z_iret C0 hP hS (v := (-1 : Int32)) (by exact zQc_of (k := 1) (by simp [A_order, hz_ia]) (fun k hk => g1_n (by omega)) (g1_s _ _ _) (z_plk (g1_n (by decide)) hp)) dX11_order_16
set_option maxHeartbeats 4000000 in
set_option maxRecDepth 100000 in
theorem c_X12_order (l : Launch) (E : zE) (G : zG) (r : Nat → Int32) (n na : Nat) (athlete : Int32) (hM : G 93 = r) (hrn : r 0 = nI n) (hrna : r 1 = nI na) (hn10 : n ≤ 10) (hna : na ≤ 5) : zMi l yX12_order wsX12_order ({ frames := 6, cells := 0, slots := 0, locals := 142 } : Room) E G [.ref (E.1 92), .int athlete] (fun r1 G1 => zQm (A_order r n na athlete) G r1 G1) := by
  refine zOf (cc := cX12_order) (nL := 7) (ret := (some .int)) RX12 (by decide) rfl rfl (Nat.le_of_ble_eq_true rfl) ?_
  intro p_ e_ s_ m_ a_ b_ me_ c_ ls C0 hP hS hl
  have hx := C0.1
  have hb := C0.2.1
  have hts := C0.2.2.2.2.1
  have hD : zD E (zA E s_.heap.size) := C0.2.2.2.2.2.2.2.2
  have hA : ∀ q : Nat, s_.heap.size ≤ q → zA E s_.heap.size q := fun q h => Or.inr h
  refine z_gen (fun Q_ hQ_ => ?_)
  have hl : lv_has ls 7 [(0, .ref (E.1 92)), (1, .int athlete)] := hl
  refine lv_aload_n hx hb dX12_order_0 rfl (lv_at hl 0 rfl) ?_
  refine lv_iload_n hx hb dX12_order_1 rfl (lv_at hl 1 rfl) ?_
  refine z_Vi C0 hP hD hA hS (As := [.int athlete]) (rest := []) (k := 92) (c_X12_isAthlete l E _ na athlete ((congrFun (hM) _).trans (hrna)) (by omega)) (cwV 1 hts (zgV zbw mlRX12_136 imX12_isAthlete seX12_isAthlete iniRX12 coX12_isAthlete) rfl rfl rfl (by decide +kernel) ⟨Nat.le_of_ble_eq_true rfl, Nat.le_of_ble_eq_true rfl⟩) (zk_lt (rfl : zk 92 = 10) (by decide)) (zd_10 E (rfl : zk 92 = 10) _) rfl rfl rfl hl.1 rfl (Nat.le_of_ble_eq_true rfl) dX12_order_2 ⟨Nat.zero_le _, Nat.zero_le _⟩ (fun r1 G1 H locs hw1 hP hS => ?_)
  rcases hw1 with ⟨rfl, rfl, ia, hia, rfl⟩ | ⟨rfl, rfl, hno1⟩
  · skip
    have hz_ia := zin_t hia (by omega)
    have hy_ia : zix (nI ia) = ia := zix_n (by omega)
    refine lv_if_ne (tgt := 14) hx hb dX12_order_5 (by decide) (fun _ => ?_) (fun h_ => absurd h_ (by decide))
    refine lv_bipush (v := (-9 : Int32)) hx hb dX12_order_14 (by decide) ?_
    refine lv_istore_n (lv' := [(2, .int (-9 : Int32)), (0, .ref (E.1 92)), (1, .int (nI ia))]) hx hb dX12_order_16 rfl hl (by decide) rfl (fun ls hl => ?_)
    refine lv_aload_n hx hb dX12_order_17 rfl (lv_at hl 1 rfl) ?_
    refine lv_aload_n hx hb dX12_order_18 rfl (lv_at hl 1 rfl) ?_
    refine z_get C0 hP (C := RX12) (T := TX12) (N := 21) (ci := 10) (index := 9) (k := 92) (ref := "WetSuitPedalsShoesModel") (zk_lt (rfl : zk 92 = 10) (by decide)) (zd_10 E (rfl : zk 92 = 10) _) rfl (zmi inU_12) 0 (by decide) (zm flRX12_9) rfl (v := .ref (E.1 93)) (rfl) dX12_order_19 ?_
    refine lv_iload_n hx hb dX12_order_22 rfl (lv_at hl 2 rfl) ?_
    refine z_Vi C0 hP hD hA hS (As := [.ref (E.1 93), .int (nI ia)]) (rest := []) (k := 92) (c_X12_finishOf l E _ 93 ia n z_lit_Arr102_93 (by omega) ((congrFun (hM) _).trans (hrn)) (by omega) (by omega)) (cwV 2 hts (zgV zbw mlRX12_156 imX12_finishOf seX12_finishOf iniRX12 coX12_finishOf) rfl rfl rfl (by decide +kernel) ⟨Nat.le_of_ble_eq_true rfl, Nat.le_of_ble_eq_true rfl⟩) (zk_lt (rfl : zk 92 = 10) (by decide)) (zd_10 E (rfl : zk 92 = 10) _) rfl rfl rfl hl.1 rfl (Nat.le_of_ble_eq_true rfl) dX12_order_23 ⟨Nat.zero_le _, Nat.zero_le _⟩ (fun r2 G2 H locs hw2 hP hS => ?_)
    obtain ⟨hr2, hF2, hrow2⟩ := hw2
    rw [show G 93 = r from hM] at hr2 hrow2
    subst hr2
    refine lv_istore_n (lv' := [(3, .int (q_fin r n ia)), (2, .int (-9 : Int32)), (0, .ref (E.1 92)), (1, .int (nI ia))]) hx hb dX12_order_26 rfl hl (by decide) rfl (fun ls hl => ?_)
    refine lv_iconst (v := (0 : Int32)) hx hb dX12_order_27 (by decide) ?_
    refine lv_istore (lv' := [(4, .int (0 : Int32)), (3, .int (q_fin r n ia)), (2, .int (-9 : Int32)), (0, .ref (E.1 92)), (1, .int (nI ia))]) hx hb dX12_order_28 hl (by decide) rfl (fun ls hl => ?_)
    have cut_30 : ∀ (fuel : Nat), ∀ (i : Nat) (b z : Int32) (Gc : zG) (H : Heap) (locs : List Loc) (ls : Array Slot), (i ≤ n) → (∀ k, (k < 94 ∨ (94 < k ∧ k < 100) ∨ 102 < k) → Gc k = G k) → ((b, z) = o_out (q_ord r n ia) n (q_fin r n ia, -9) i) → zP E Gc H → va_S (zA E s_.heap.size) s_.heap H locs → lv_has ls 7 [(0, .ref (E.1 92)), (1, .int (nI ia)), (2, .int z), (3, .int b), (4, .int (nI i))] → n - i < fuel → W p_ l e_ ({ frames := 6, cells := 0, slots := 0, locals := 142 } : Room) s_ m_ a_ b_ me_ c_ H locs 0 0 Q_ (F0 m_ 30 ls []) := by
      intro fuel
      induction fuel with
      | zero =>
        intro i  b z  Gc  H locs ls hin hFc hob hP hS hl hfu
        exact absurd hfu (Nat.not_lt_zero _)
      | succ fuel ih_30 =>
        intro i  b z  Gc  H locs ls hin hFc hob hP hS hl hfu_30
        refine lv_iload hx hb dX12_order_30 (lv_at hl 4 rfl) ?_
        refine lv_aload_n hx hb dX12_order_32 rfl (lv_at hl 0 rfl) ?_
        refine z_get C0 hP (C := RX12) (T := TX12) (N := 21) (ci := 10) (index := 9) (k := 92) (ref := "WetSuitPedalsShoesModel") (zk_lt (rfl : zk 92 = 10) (by decide)) (zd_10 E (rfl : zk 92 = 10) _) rfl (zmi inU_12) 0 (by decide) (zm flRX12_9) rfl (v := .ref (E.1 93)) (rfl) dX12_order_33 ?_
        refine lv_iconst (v := (0 : Int32)) hx hb dX12_order_36 (by decide) ?_
        refine z_iald C0 hP (k := 93) (i := 0) (v := (nI n)) (rfl : zk 93 = 11) (Nat.lt_of_lt_of_eq (show 0 < 102 by decide) (rfl : zl 93 = 102).symm) rfl dX12_order_37 ((congrFun ((hFc _ (by decide)).trans (hM)) _).trans (hrn)) ?_
        refine z_N_ge hx hb (a := i) (b := n) (tgt := 125) dX12_order_38 rfl rfl (by omega) (by omega) (by decide) (fun c_38 => ?_) (fun c_38 => ?_)
        · skip
          have e9 := o_end hob (by omega)
          refine lv_iload_n hx hb dX12_order_125 rfl (lv_at hl 2 rfl) ?_
          subst hQ_
          exact z_iret C0 hP hS (v := z) (by exact zQm_of (k := 0) (by simp [A_order, hz_ia, hy_ia, c_38, e9]) (fun k hk => hFc k (by omega)) (hFc _ (by decide))) dX12_order_126
        · skip
          refine lv_iload hx hb dX12_order_41 (lv_at hl 4 rfl) ?_
          refine lv_iconst (v := (1 : Int32)) hx hb dX12_order_43 (by decide) ?_
          refine z_iadd hx hb (a := i) (b := 1) (n := i + 1) dX12_order_44 rfl rfl rfl ?_
          refine lv_istore (lv' := [(5, .int (nI (i + 1))), (0, .ref (E.1 92)), (1, .int (nI ia)), (2, .int z), (3, .int b), (4, .int (nI i))]) hx hb dX12_order_45 hl (by decide) rfl (fun ls hl => ?_)
          have cut_47 : ∀ (fuel : Nat), ∀ (k : Nat) (b z : Int32) (Gc : zG) (H : Heap) (locs : List Loc) (ls : Array Slot), (i + 1 + k ≤ n) → (∀ k, (k < 94 ∨ (94 < k ∧ k < 100) ∨ 102 < k) → Gc k = G k) → ((b, z) = o_in (q_ord r n ia i) i (o_out (q_ord r n ia) n (q_fin r n ia, -9) i) k) → zP E Gc H → va_S (zA E s_.heap.size) s_.heap H locs → lv_has ls 7 [(0, .ref (E.1 92)), (1, .int (nI ia)), (2, .int z), (3, .int b), (4, .int (nI i)), (5, .int (nI (i + 1 + k)))] → n - k < fuel → W p_ l e_ ({ frames := 6, cells := 0, slots := 0, locals := 142 } : Room) s_ m_ a_ b_ me_ c_ H locs 0 0 Q_ (F0 m_ 47 ls []) := by
            intro fuel
            induction fuel with
            | zero =>
              intro k  b z  Gc  H locs ls hik hFc hb2 hP hS hl hfu
              exact absurd hfu (Nat.not_lt_zero _)
            | succ fuel ih_47 =>
              intro k  b z  Gc  H locs ls hik hFc hb2 hP hS hl hfu_47
              refine lv_iload hx hb dX12_order_47 (lv_at hl 5 rfl) ?_
              refine lv_aload_n hx hb dX12_order_49 rfl (lv_at hl 0 rfl) ?_
              refine z_get C0 hP (C := RX12) (T := TX12) (N := 21) (ci := 10) (index := 9) (k := 92) (ref := "WetSuitPedalsShoesModel") (zk_lt (rfl : zk 92 = 10) (by decide)) (zd_10 E (rfl : zk 92 = 10) _) rfl (zmi inU_12) 0 (by decide) (zm flRX12_9) rfl (v := .ref (E.1 93)) (rfl) dX12_order_50 ?_
              refine lv_iconst (v := (0 : Int32)) hx hb dX12_order_53 (by decide) ?_
              refine z_iald C0 hP (k := 93) (i := 0) (v := (nI n)) (rfl : zk 93 = 11) (Nat.lt_of_lt_of_eq (show 0 < 102 by decide) (rfl : zl 93 = 102).symm) rfl dX12_order_54 ((congrFun ((hFc _ (by decide)).trans (hM)) _).trans (hrn)) ?_
              refine z_N_ge hx hb (a := i + 1 + k) (b := n) (tgt := 119) dX12_order_55 rfl rfl (by omega) (by omega) (by decide) (fun c_55 => ?_) (fun c_55 => ?_)
              · skip
                refine lv_iinc (v := (nI (i + 1))) (lv' := [(4, .int (nI (i + 1))), (0, .ref (E.1 92)), (1, .int (nI ia)), (2, .int z), (3, .int b), (5, .int (nI (i + 1 + k)))]) hx hb dX12_order_119 hl (k := 4) rfl (z_inc (by decide)) (by decide) rfl (fun ls hl => ?_)
                refine lv_goto (tgt := 30) hx hb dX12_order_122 (by decide) ?_
                exact ih_30 (i + 1) b z Gc _ _ _ (by first | assumption | omega) (by exact fun k hk => hFc k (by omega)) (by have e9 : n - (i + 1) = k := (by omega); exact hb2.trans (congrArg (o_in _ _ _) e9.symm)) hP hS (lv_sub hl [1, 2, 3, 4, 0] rfl) (by omega)
              · skip
                refine lv_aload_n hx hb dX12_order_58 rfl (lv_at hl 0 rfl) ?_
                refine z_get C0 hP (C := RX12) (T := TX12) (N := 21) (ci := 10) (index := 9) (k := 92) (ref := "WetSuitPedalsShoesModel") (zk_lt (rfl : zk 92 = 10) (by decide)) (zd_10 E (rfl : zk 92 = 10) _) rfl (zmi inU_12) 0 (by decide) (zm flRX12_9) rfl (v := .ref (E.1 93)) (rfl) dX12_order_59 ?_
                refine lv_aload_n hx hb dX12_order_62 rfl (lv_at hl 0 rfl) ?_
                refine z_get C0 hP (C := RX12) (T := TX12) (N := 21) (ci := 10) (index := 13) (k := 92) (ref := "WetSuitPedalsShoesModel") (zk_lt (rfl : zk 92 = 10) (by decide)) (zd_10 E (rfl : zk 92 = 10) _) rfl (zmi inU_12) 1 (by decide) (zm flRX12_13) rfl (v := .ref (E.1 94)) (rfl) dX12_order_63 ?_
                refine z_Sv C0 hP hD hA hS (As := [.ref (E.1 93), .ref (E.1 94)]) (rest := []) (c_X12_lays l E _ 93 94 z_lit_Arr102_93 z_lit_Arr102_94 (by decide)) (va_cwS 2 hts (zgS zbw mlRX12_149 stX12_lays iniRX12 coX12_lays) rfl rfl rfl (by decide +kernel) ⟨Nat.le_of_ble_eq_true rfl, Nat.le_of_ble_eq_true rfl⟩) rfl hl.1 rfl (Nat.le_of_ble_eq_true rfl) dX12_order_66 ⟨Nat.zero_le _, Nat.zero_le _⟩ (fun G3 H locs hw3 hP hS => ?_)
                obtain ⟨hF3, hcp3⟩ := hw3
                refine lv_aload_n hx hb dX12_order_69 rfl (lv_at hl 0 rfl) ?_
                refine lv_iload hx hb dX12_order_70 (lv_at hl 4 rfl) ?_
                refine lv_iload hx hb dX12_order_72 (lv_at hl 5 rfl) ?_
                refine lv_aload_n hx hb dX12_order_74 rfl (lv_at hl 0 rfl) ?_
                refine z_get C0 hP (C := RX12) (T := TX12) (N := 21) (ci := 10) (index := 13) (k := 92) (ref := "WetSuitPedalsShoesModel") (zk_lt (rfl : zk 92 = 10) (by decide)) (zd_10 E (rfl : zk 92 = 10) _) rfl (zmi inU_12) 1 (by decide) (zm flRX12_13) rfl (v := .ref (E.1 94)) (rfl) dX12_order_75 ?_
                refine z_Vv C0 hP hD hA hS (As := [.int (nI i), .int (nI (i + 1 + k)), .ref (E.1 94)]) (rest := []) (k := 92) (c_X12_changes l E _ 94 i (i + 1 + k) z_lit_Arr102_94 (by omega) (by omega) (by omega)) (cwV 3 hts (zgV zbw mlRX12_142 imX12_changes seX12_changes iniRX12 coX12_changes) rfl rfl rfl (by decide +kernel) ⟨Nat.le_of_ble_eq_true rfl, Nat.le_of_ble_eq_true rfl⟩) (zk_lt (rfl : zk 92 = 10) (by decide)) (zd_10 E (rfl : zk 92 = 10) _) rfl rfl rfl hl.1 rfl (Nat.le_of_ble_eq_true rfl) dX12_order_78 ⟨Nat.zero_le _, Nat.zero_le _⟩ (fun G4 H locs hw4 hP hS => ?_)
                obtain rfl := hw4
                refine lv_aload_n hx hb dX12_order_81 rfl (lv_at hl 0 rfl) ?_
                refine lv_aload_n hx hb dX12_order_82 rfl (lv_at hl 0 rfl) ?_
                refine z_get C0 hP (C := RX12) (T := TX12) (N := 21) (ci := 10) (index := 13) (k := 92) (ref := "WetSuitPedalsShoesModel") (zk_lt (rfl : zk 92 = 10) (by decide)) (zd_10 E (rfl : zk 92 = 10) _) rfl (zmi inU_12) 1 (by decide) (zm flRX12_13) rfl (v := .ref (E.1 94)) (rfl) dX12_order_83 ?_
                refine lv_iload_n hx hb dX12_order_86 rfl (lv_at hl 1 rfl) ?_
                refine z_Vi C0 hP hD hA hS (As := [.ref (E.1 94), .int (nI ia)]) (rest := []) (k := 92) (c_X12_finishOf l E _ 94 ia n z_lit_Arr102_94 (by omega) ((congrFun (g1_s _ _ _) _).trans ((s_chg_lo 3 0 (by decide)).trans (((fun j hj => (hcp3 j hj).trans (congrFun ((hFc _ (by decide)).trans (hM)) j)) 0 (by decide)).trans hrn))) (by omega) (by omega)) (cwV 2 hts (zgV zbw mlRX12_156 imX12_finishOf seX12_finishOf iniRX12 coX12_finishOf) rfl rfl rfl (by decide +kernel) ⟨Nat.le_of_ble_eq_true rfl, Nat.le_of_ble_eq_true rfl⟩) (zk_lt (rfl : zk 92 = 10) (by decide)) (zd_10 E (rfl : zk 92 = 10) _) rfl rfl rfl hl.1 rfl (Nat.le_of_ble_eq_true rfl) dX12_order_87 ⟨Nat.zero_le _, Nat.zero_le _⟩ (fun r5 G5 H locs hw5 hP hS => ?_)
                obtain ⟨hr5, hF5, hrow5⟩ := hw5
                rw [show (g1 G3 94 (s_chg (G3 94) i (i + 1 + k) 3)) 94 = (s_chg (G3 94) i (i + 1 + k) 3) from g1_s _ _ _] at hr5
                have hr5 : q_ord r n ia i (i + 1 + k) = _ := (q_ord_c (fun j hj => (hcp3 j hj).trans (congrFun ((hFc _ (by decide)).trans (hM)) j)) (by omega) (by omega) (by omega) hn10).symm.trans hr5
                subst hr5
                refine lv_istore (lv' := [(6, .int (q_ord r n ia i (i + 1 + k))), (0, .ref (E.1 92)), (1, .int (nI ia)), (2, .int z), (3, .int b), (4, .int (nI i)), (5, .int (nI (i + 1 + k)))]) hx hb dX12_order_90 hl (by decide) rfl (fun ls hl => ?_)
                refine lv_iload hx hb dX12_order_92 (lv_at hl 0 rfl) ?_
                refine lv_iload_n hx hb dX12_order_94 rfl (lv_at hl 4 rfl) ?_
                refine lv_icmp_lt (tgt := 101) hx hb dX12_order_95 (by decide) (fun c_95 => ?_) (fun c_95 => ?_)
                · skip
                  have hb2 := o_in_y hb2 c_95
                  refine lv_bipush (v := (10 : Int32)) hx hb dX12_order_101 (by decide) ?_
                  refine lv_iload hx hb dX12_order_103 (lv_at hl 5 rfl) ?_
                  refine z_imul hx hb (a := 10) (b := i) (n := 10 * i) dX12_order_105 rfl rfl rfl ?_
                  refine lv_iload hx hb dX12_order_106 (lv_at hl 6 rfl) ?_
                  refine z_iadd hx hb (a := 10 * i) (b := i + 1 + k) (n := (10 * i) + (i + 1 + k)) dX12_order_108 rfl rfl rfl ?_
                  refine lv_istore_n (lv' := [(2, .int (nI ((10 * i) + (i + 1 + k)))), (6, .int (q_ord r n ia i (i + 1 + k))), (0, .ref (E.1 92)), (1, .int (nI ia)), (3, .int b), (4, .int (nI i)), (5, .int (nI (i + 1 + k)))]) hx hb dX12_order_109 rfl hl (by decide) rfl (fun ls hl => ?_)
                  refine lv_iload hx hb dX12_order_110 (lv_at hl 1 rfl) ?_
                  refine lv_istore_n (lv' := [(3, .int (q_ord r n ia i (i + 1 + k))), (2, .int (nI ((10 * i) + (i + 1 + k)))), (6, .int (q_ord r n ia i (i + 1 + k))), (0, .ref (E.1 92)), (1, .int (nI ia)), (4, .int (nI i)), (5, .int (nI (i + 1 + k)))]) hx hb dX12_order_112 rfl hl (by decide) rfl (fun ls hl => ?_)
                  refine lv_iinc (v := (nI (i + 1 + k + 1))) (lv' := [(5, .int (nI (i + 1 + k + 1))), (3, .int (q_ord r n ia i (i + 1 + k))), (2, .int (nI ((10 * i) + (i + 1 + k)))), (6, .int (q_ord r n ia i (i + 1 + k))), (0, .ref (E.1 92)), (1, .int (nI ia)), (4, .int (nI i))]) hx hb dX12_order_113 hl (k := 6) rfl (z_inc (by decide)) (by decide) rfl (fun ls hl => ?_)
                  refine lv_goto (tgt := 47) hx hb dX12_order_116 (by decide) ?_
                  exact ih_47 (k + 1) (q_ord r n ia i (i + 1 + k)) (nI ((10 * i) + (i + 1 + k))) G5 _ _ _ (by first | assumption | omega) (by exact fun k hk => (hF5 k (by omega)).trans ((g1_n (by omega)).trans ((hF3 k (by omega)).trans (hFc k (by omega))))) (by exact hb2) hP hS (lv_sub hl [4, 5, 2, 1, 6, 0] rfl) (by omega)
                · skip
                  have hb2 := o_in_n hb2 c_95
                  refine lv_goto (tgt := 113) hx hb dX12_order_98 (by decide) ?_
                  refine lv_iinc (v := (nI (i + 1 + k + 1))) (lv' := [(5, .int (nI (i + 1 + k + 1))), (6, .int (q_ord r n ia i (i + 1 + k))), (0, .ref (E.1 92)), (1, .int (nI ia)), (2, .int z), (3, .int b), (4, .int (nI i))]) hx hb dX12_order_113 hl (k := 6) rfl (z_inc (by decide)) (by decide) rfl (fun ls hl => ?_)
                  refine lv_goto (tgt := 47) hx hb dX12_order_116 (by decide) ?_
                  exact ih_47 (k + 1) b z G5 _ _ _ (by first | assumption | omega) (by exact fun k hk => (hF5 k (by omega)).trans ((g1_n (by omega)).trans ((hF3 k (by omega)).trans (hFc k (by omega))))) (by exact hb2) hP hS (lv_sub hl [2, 3, 4, 5, 6, 0] rfl) (by omega)
          exact cut_47 (_ + 1) 0 b z Gc _ _ _ (by first | assumption | omega) (by exact fun k hk => hFc k (by omega)) (by exact hob) hP hS (lv_sub hl [1, 2, 3, 4, 5, 0] rfl) (Nat.lt_succ_self _)
    exact cut_30 (_ + 1) 0 (q_fin r n ia) (-9 : Int32) G2 _ _ _ (by first | assumption | omega) (by exact fun k hk => hF2 k (by omega)) (by rfl) hP hS (lv_sub hl [3, 4, 2, 1, 0] rfl) (Nat.lt_succ_self _)
  · skip
    have hz_ia := zin_f (by omega) hno1
    refine lv_if_ne (tgt := 14) hx hb dX12_order_5 (by decide) (fun h_ => absurd (by decide) h_) (fun _ => ?_)
    refine lv_aload_n hx hb dX12_order_8 rfl (lv_at hl 0 rfl) ?_
    refine lv_iconst (v := (-1 : Int32)) hx hb dX12_order_9 (by decide) ?_
    refine z_Vi C0 hP hD hA hS (As := [.int (-1 : Int32)]) (rest := []) (k := 92) (c_X12_no l E _ (-1 : Int32) 1 (by decide) (by decide)) (cwV 1 hts (zgV zbw mlRX12_56 imX12_no seX12_no iniRX12 coX12_no) rfl rfl rfl (by decide +kernel) ⟨Nat.le_of_ble_eq_true rfl, Nat.le_of_ble_eq_true rfl⟩) (zk_lt (rfl : zk 92 = 10) (by decide)) (zd_10 E (rfl : zk 92 = 10) _) rfl rfl rfl hl.1 rfl (Nat.le_of_ble_eq_true rfl) dX12_order_10 ⟨Nat.zero_le _, Nat.zero_le _⟩ (fun r6 G6 H locs hw6 hP hS => ?_)
    obtain ⟨rfl, rfl⟩ := hw6
    subst hQ_
    exact z_iret C0 hP hS (v := (-1 : Int32)) (by exact zQm_of (k := 1) (by simp [A_order, hz_ia]) (fun k hk => g1_n (by omega)) (g1_s _ _ _)) dX12_order_13
