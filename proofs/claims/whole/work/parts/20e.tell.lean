/-! laid by wip/whole/vcg.py -/
theorem flRX9_43 : Cond.fieldLink RX9 43 "WetSuitPedalsShoes$Field" "course" "LWetSuitPedalsShoes$Course;" ∈ zU := zU_m 132 (by decide +kernel) rfl
theorem flRX9_49 : Cond.fieldLink RX9 49 "WetSuitPedalsShoes$Course" "many" "I" ∈ zU := zU_m 88 (by decide +kernel) rfl
theorem flRX9_52 : Cond.fieldLink RX9 52 "WetSuitPedalsShoes$Field" "many" "I" ∈ zU := zU_m 136 (by decide +kernel) rfl
theorem mlRX9_53 : Cond.methodLink RX9 53 yX9_endOf ∈ zU := zU_m 350 (by decide +kernel) rfl
theorem coX9_endOf : Cond.code yX9_endOf cX9_endOf 3 (some .int) ∈ zU := zU_m 353 (by decide +kernel) rfl
theorem imX9_endOf : Cond.instanceMethod yX9_endOf ∈ zU := zU_m 352 (by decide +kernel) rfl
theorem seX9_endOf : Cond.selects RX9 yX9_endOf yX9_endOf ∈ zU := zU_m 3 (by decide +kernel) rfl
theorem mlRX9_56 : Cond.methodLink RX9 56 yX9_isAsItMustBe ∈ zU := zU_m 354 (by decide +kernel) rfl
theorem coX9_isAsItMustBe : Cond.code yX9_isAsItMustBe cX9_isAsItMustBe 7 (some .boolean) ∈ zU := zU_m 357 (by decide +kernel) rfl
theorem imX9_isAsItMustBe : Cond.instanceMethod yX9_isAsItMustBe ∈ zU := zU_m 356 (by decide +kernel) rfl
theorem seX9_isAsItMustBe : Cond.selects RX9 yX9_isAsItMustBe yX9_isAsItMustBe ∈ zU := zU_m 4 (by decide +kernel) rfl
set_option maxHeartbeats 4000000 in
set_option maxRecDepth 100000 in
theorem c_X9_placeOfBadStatement (l : Launch) (E : zE) (G : zG) (L : Nat → Int32) (K : Nat) (hL : G 44 = L) (hK : G 43 0 = nI K) (hK96 : K ≤ 96) (n na : Nat) (hn : G 2 0 = nI n) (hna : G 1 2 = nI na) (hn10 : n ≤ 10) (hna5 : na ≤ 5) (hf1 : c_f1 L K = -9) : zMi l yX9_placeOfBadStatement wsX9_placeOfBadStatement ({ frames := 3, cells := 0, slots := 0, locals := 70 } : Room) E G [.ref (E.1 43), .ref (E.1 1)] (fun r1 G1 => (∃ k, (∀ j, j < k → r_pos L K j < K ∧ r_ok L K n na j = true) ∧ r_pos L K k < K ∧ ¬ r_ok L K n na k = true ∧ nI (r_pos L K k) = r1 ∧ G = G1) ∨ (∃ k, (∀ j, j < k → r_pos L K j < K ∧ r_ok L K n na j = true) ∧ K ≤ r_pos L K k ∧ -9 = r1 ∧ G = G1)) := by
  refine zOf (cc := cX9_placeOfBadStatement) (nL := 7) (ret := (some .int)) RX9 (by decide) rfl rfl (Nat.le_of_ble_eq_true rfl) ?_
  intro p_ e_ s_ m_ a_ b_ me_ c_ ls C0 hP hS hl
  have hx := C0.1
  have hb := C0.2.1
  have hts := C0.2.2.2.2.1
  have hD : zD E (zA E s_.heap.size) := C0.2.2.2.2.2.2.2.2
  have hA : ∀ q : Nat, s_.heap.size ≤ q → zA E s_.heap.size q := fun q h => Or.inr h
  refine z_gen (fun Q_ hQ_ => ?_)
  have hl : lv_has ls 7 [(0, .ref (E.1 43)), (1, .ref (E.1 1))] := hl
  refine lv_aload_n hx hb dX9_placeOfBadStatement_0 rfl (lv_at hl 1 rfl) ?_
  refine z_get C0 hP (C := RX3) (T := TX3) (N := 3) (ci := 3) (index := 43) (k := 1) (ref := "WetSuitPedalsShoes$Field") (zk_lt (rfl : zk 1 = 3) (by decide)) (zd_3 E (rfl : zk 1 = 3) _) rfl (zmi inU_3) 0 (by decide) (zm flRX9_43) rfl (v := .ref (E.1 2)) (rfl) dX9_placeOfBadStatement_1 ?_
  refine z_get C0 hP (C := RX1) (T := TX1) (N := 4) (ci := 1) (index := 49) (k := 2) (ref := "WetSuitPedalsShoes$Course") (zk_lt (rfl : zk 2 = 1) (by decide)) (zd_1 E (rfl : zk 2 = 1) _) rfl (zmi inU_1) 0 (by decide) (zm flRX9_49) rfl (v := .int (nI n)) (congrArg (fun z => some (Value.int z)) (hn)) dX9_placeOfBadStatement_4 ?_
  refine lv_istore_n (lv' := [(2, .int (nI n)), (0, .ref (E.1 43)), (1, .ref (E.1 1))]) hx hb dX9_placeOfBadStatement_7 rfl hl (by decide) rfl (fun ls hl => ?_)
  refine lv_aload_n hx hb dX9_placeOfBadStatement_8 rfl (lv_at hl 2 rfl) ?_
  refine z_get C0 hP (C := RX3) (T := TX3) (N := 3) (ci := 3) (index := 52) (k := 1) (ref := "WetSuitPedalsShoes$Field") (zk_lt (rfl : zk 1 = 3) (by decide)) (zd_3 E (rfl : zk 1 = 3) _) rfl (zmi inU_3) 2 (by decide) (zm flRX9_52) rfl (v := .int (nI na)) (congrArg (fun z => some (Value.int z)) (hna)) dX9_placeOfBadStatement_9 ?_
  refine lv_istore_n (lv' := [(3, .int (nI na)), (2, .int (nI n)), (0, .ref (E.1 43)), (1, .ref (E.1 1))]) hx hb dX9_placeOfBadStatement_12 rfl hl (by decide) rfl (fun ls hl => ?_)
  refine lv_iconst (v := (0 : Int32)) hx hb dX9_placeOfBadStatement_13 (by decide) ?_
  refine lv_istore (lv' := [(4, .int (0 : Int32)), (3, .int (nI na)), (2, .int (nI n)), (0, .ref (E.1 43)), (1, .ref (E.1 1))]) hx hb dX9_placeOfBadStatement_14 hl (by decide) rfl (fun ls hl => ?_)
  refine lv_iconst (v := (0 : Int32)) hx hb dX9_placeOfBadStatement_16 (by decide) ?_
  refine lv_istore (lv' := [(5, .int (0 : Int32)), (4, .int (0 : Int32)), (3, .int (nI na)), (2, .int (nI n)), (0, .ref (E.1 43)), (1, .ref (E.1 1))]) hx hb dX9_placeOfBadStatement_17 hl (by decide) rfl (fun ls hl => ?_)
  have cut_19 : ∀ (fuel : Nat), ∀ (k sc ac st : Nat) (H : Heap) (locs : List Loc) (ls : Array Slot), (k ≤ 96) → (∀ j, j < k → r_pos L K j < K ∧ r_ok L K n na j = true) → (sc = r_n L K n k) → (ac = r_na L K na k) → (st = r_pos L K k) → zP E G H → va_S (zA E s_.heap.size) s_.heap H locs → lv_has ls 7 [(0, .ref (E.1 43)), (1, .ref (E.1 1)), (2, .int (nI sc)), (3, .int (nI ac)), (4, .int (nI st)), (5, .int (nI k))] → 96 - k < fuel → W p_ l e_ ({ frames := 3, cells := 0, slots := 0, locals := 70 } : Room) s_ m_ a_ b_ me_ c_ H locs 0 0 Q_ (F0 m_ 19 ls []) := by
    intro fuel
    induction fuel with
    | zero =>
      intro k sc ac st  H locs ls hk hall hsc hac hst hP hS hl hfu
      exact absurd hfu (Nat.not_lt_zero _)
    | succ fuel ih_19 =>
      intro k sc ac st  H locs ls hk hall hsc hac hst hP hS hl hfu_19
      have hcnt := r_cnt hn10 hna5 k (fun j hj => (hall j hj).2)
      rw [← hsc, ← hac] at hcnt
      have hge := r_pos_ge L K k
      rw [← hst] at hge
      have hgle := (r_pos_g hf1 hK96 k (fun j hj => (hall j hj).1)).2
      rw [← hst] at hgle
      refine lv_iload hx hb dX9_placeOfBadStatement_19 (lv_at hl 5 rfl) ?_
      refine lv_bipush (v := (96 : Int32)) hx hb dX9_placeOfBadStatement_21 (by decide) ?_
      refine z_N_ge hx hb (a := k) (b := 96) (tgt := 102) dX9_placeOfBadStatement_23 rfl rfl (by omega) (by omega) (by decide) (fun c_23 => ?_) (fun c_23 => ?_)
      · skip
        refine lv_bipush (v := (-9 : Int32)) hx hb dX9_placeOfBadStatement_102 (by decide) ?_
        subst hQ_
        exact z_iret C0 hP hS (v := (-9 : Int32)) (by exact Or.inr ⟨k, hall, by omega, rfl, rfl⟩) dX9_placeOfBadStatement_104
      · skip
        refine lv_iload hx hb dX9_placeOfBadStatement_26 (lv_at hl 4 rfl) ?_
        refine lv_aload_n hx hb dX9_placeOfBadStatement_28 rfl (lv_at hl 0 rfl) ?_
        refine z_get C0 hP (C := RX9) (T := TX9) (N := 2) (ci := 7) (index := 9) (k := 43) (ref := "WetSuitPedalsShoes$Text") (zk_lt (rfl : zk 43 = 7) (by decide)) (zd_7 E (rfl : zk 43 = 7) _) rfl (zmi inU_9) 0 (by decide) (zm flRX9_9) rfl (v := .int (nI K)) (congrArg (fun z => some (Value.int z)) (hK)) dX9_placeOfBadStatement_29 ?_
        refine z_N_ge hx hb (a := st) (b := K) (tgt := 102) dX9_placeOfBadStatement_32 rfl rfl (by omega) (by omega) (by decide) (fun c_32 => ?_) (fun c_32 => ?_)
        · skip
          refine lv_bipush (v := (-9 : Int32)) hx hb dX9_placeOfBadStatement_102 (by decide) ?_
          subst hQ_
          exact z_iret C0 hP hS (v := (-9 : Int32)) (by exact Or.inr ⟨k, hall, by omega, rfl, rfl⟩) dX9_placeOfBadStatement_104
        · skip
          have hgat := (r_pos_g hf1 hK96 k (fun j hj => (hall j hj).1)).1
          rw [← hst] at hgat
          obtain ⟨hgr, hend⟩ := g_all hf1 hK96 hgat (by omega)
          refine lv_aload_n hx hb dX9_placeOfBadStatement_35 rfl (lv_at hl 0 rfl) ?_
          refine lv_iload hx hb dX9_placeOfBadStatement_36 (lv_at hl 4 rfl) ?_
          refine z_Vi C0 hP hD hA hS (As := [.int (nI st)]) (rest := []) (k := 43) (c_X9_endOf l E _ L K (hL) (hK) hK96 st (by omega)) (cwV 1 hts (zgV zbw mlRX9_53 imX9_endOf seX9_endOf iniRX9 coX9_endOf) rfl rfl rfl (by decide +kernel) ⟨Nat.le_of_ble_eq_true rfl, Nat.le_of_ble_eq_true rfl⟩) (zk_lt (rfl : zk 43 = 7) (by decide)) (zd_7 E (rfl : zk 43 = 7) _) rfl rfl rfl hl.1 rfl (Nat.le_of_ble_eq_true rfl) dX9_placeOfBadStatement_38 ⟨Nat.zero_le _, Nat.zero_le _⟩ (fun r1 G1 H locs hw1 hP hS => ?_)
          obtain ⟨hr1, rfl⟩ := hw1
          subst hr1
          refine lv_istore (lv' := [(6, .int (nI (c_end L K st))), (0, .ref (E.1 43)), (1, .ref (E.1 1)), (2, .int (nI sc)), (3, .int (nI ac)), (4, .int (nI st)), (5, .int (nI k))]) hx hb dX9_placeOfBadStatement_41 hl (by decide) rfl (fun ls hl => ?_)
          refine lv_aload_n hx hb dX9_placeOfBadStatement_43 rfl (lv_at hl 1 rfl) ?_
          refine lv_iload hx hb dX9_placeOfBadStatement_44 (lv_at hl 5 rfl) ?_
          refine lv_iload hx hb dX9_placeOfBadStatement_46 (lv_at hl 0 rfl) ?_
          refine lv_iload_n hx hb dX9_placeOfBadStatement_48 rfl (lv_at hl 3 rfl) ?_
          refine lv_iload_n hx hb dX9_placeOfBadStatement_49 rfl (lv_at hl 4 rfl) ?_
          refine z_Vi C0 hP hD hA hS (As := [.int (nI st), .int (nI (c_end L K st)), .int (nI sc), .int (nI ac)]) (rest := []) (k := 43) (c_X9_isAsItMustBe l E _ L K (hL) (hK) hK96 st (c_end L K st) sc ac hgr hend (by omega) (by omega)) (cwV 4 hts (zgV zbw mlRX9_56 imX9_isAsItMustBe seX9_isAsItMustBe iniRX9 coX9_isAsItMustBe) rfl rfl rfl (by decide +kernel) ⟨Nat.le_of_ble_eq_true rfl, Nat.le_of_ble_eq_true rfl⟩) (zk_lt (rfl : zk 43 = 7) (by decide)) (zd_7 E (rfl : zk 43 = 7) _) rfl rfl rfl hl.1 rfl (Nat.le_of_ble_eq_true rfl) dX9_placeOfBadStatement_50 ⟨Nat.zero_le _, Nat.zero_le _⟩ (fun r2 G2 H locs hw2 hP hS => ?_)
          rcases hw2 with ⟨rfl, rfl, hok⟩ | ⟨rfl, rfl, hok⟩
          · skip
            refine lv_if_ne (tgt := 59) hx hb dX9_placeOfBadStatement_53 (by decide) (fun _ => ?_) (fun h_ => absurd h_ (by decide))
            refine lv_aload_n hx hb dX9_placeOfBadStatement_59 rfl (lv_at hl 1 rfl) ?_
            refine lv_iload hx hb dX9_placeOfBadStatement_60 (lv_at hl 5 rfl) ?_
            refine z_Vi C0 hP hD hA hS (As := [.int (nI st)]) (rest := []) (k := 43) (c_X9_letterAt l E _ L K (hL) (hK) hK96 st (by omega)) (cwV 1 hts (zgV zbw mlRX9_60 imX9_letterAt seX9_letterAt iniRX9 coX9_letterAt) rfl rfl rfl (by decide +kernel) ⟨Nat.le_of_ble_eq_true rfl, Nat.le_of_ble_eq_true rfl⟩) (zk_lt (rfl : zk 43 = 7) (by decide)) (zd_7 E (rfl : zk 43 = 7) _) rfl rfl rfl hl.1 rfl (Nat.le_of_ble_eq_true rfl) dX9_placeOfBadStatement_62 ⟨Nat.zero_le _, Nat.zero_le _⟩ (fun r3 G3 H locs hw3 hP hS => ?_)
            obtain ⟨hr3, rfl⟩ := hw3
            subst hr3
            refine lv_bipush (v := (115 : Int32)) hx hb dX9_placeOfBadStatement_65 (by decide) ?_
            refine lv_icmp_ne (tgt := 76) hx hb dX9_placeOfBadStatement_67 (by decide) (fun c_67 => ?_) (fun c_67 => ?_)
            · skip
              refine lv_aload_n hx hb dX9_placeOfBadStatement_76 rfl (lv_at hl 1 rfl) ?_
              refine lv_iload hx hb dX9_placeOfBadStatement_77 (lv_at hl 5 rfl) ?_
              refine z_Vi C0 hP hD hA hS (As := [.int (nI st)]) (rest := []) (k := 43) (c_X9_letterAt l E _ L K (hL) (hK) hK96 st (by omega)) (cwV 1 hts (zgV zbw mlRX9_60 imX9_letterAt seX9_letterAt iniRX9 coX9_letterAt) rfl rfl rfl (by decide +kernel) ⟨Nat.le_of_ble_eq_true rfl, Nat.le_of_ble_eq_true rfl⟩) (zk_lt (rfl : zk 43 = 7) (by decide)) (zd_7 E (rfl : zk 43 = 7) _) rfl rfl rfl hl.1 rfl (Nat.le_of_ble_eq_true rfl) dX9_placeOfBadStatement_79 ⟨Nat.zero_le _, Nat.zero_le _⟩ (fun r4 G4 H locs hw4 hP hS => ?_)
              obtain ⟨hr4, rfl⟩ := hw4
              subst hr4
              refine lv_bipush (v := (97 : Int32)) hx hb dX9_placeOfBadStatement_82 (by decide) ?_
              refine lv_icmp_ne (tgt := 90) hx hb dX9_placeOfBadStatement_84 (by decide) (fun c_84 => ?_) (fun c_84 => ?_)
              · skip
                refine lv_iload hx hb dX9_placeOfBadStatement_90 (lv_at hl 0 rfl) ?_
                refine lv_iconst (v := (1 : Int32)) hx hb dX9_placeOfBadStatement_92 (by decide) ?_
                refine z_iadd hx hb (a := c_end L K st) (b := 1) (n := (c_end L K st) + 1) dX9_placeOfBadStatement_93 rfl rfl rfl ?_
                refine lv_istore (lv' := [(4, .int (nI ((c_end L K st) + 1))), (6, .int (nI (c_end L K st))), (0, .ref (E.1 43)), (1, .ref (E.1 1)), (2, .int (nI sc)), (3, .int (nI ac)), (5, .int (nI k))]) hx hb dX9_placeOfBadStatement_94 hl (by decide) rfl (fun ls hl => ?_)
                refine lv_iinc (v := (nI (k + 1))) (lv' := [(5, .int (nI (k + 1))), (4, .int (nI ((c_end L K st) + 1))), (6, .int (nI (c_end L K st))), (0, .ref (E.1 43)), (1, .ref (E.1 1)), (2, .int (nI sc)), (3, .int (nI ac))]) hx hb dX9_placeOfBadStatement_96 hl (k := 6) rfl (z_inc (by decide)) (by decide) rfl (fun ls hl => ?_)
                refine lv_goto (tgt := 19) hx hb dX9_placeOfBadStatement_99 (by decide) ?_
                exact ih_19 (k + 1) sc ac ((c_end L K st) + 1) _ _ _ (by first | assumption | omega) (by intro j hj; rcases Nat.lt_or_ge j k with q9 | q9; (exact hall j q9); (rw [show j = k by omega]; exact ⟨by omega, by unfold r_ok; rw [← hst, ← hsc, ← hac]; exact hok⟩)) (by show _ = d_n L (r_pos L K k) (r_n L K n k); rw [← hst, ← hsc]; unfold d_n; first | (rw [if_pos c_67]; done) | (rw [if_neg c_67]; done)) (by show _ = d_na L (r_pos L K k) (r_na L K na k); rw [← hst, ← hac]; unfold d_na; first | (rw [if_neg (z_hne c_67 (by decide))]; done) | (rw [if_pos c_84]; done) | (rw [if_neg c_84]; done)) (by show _ = c_end L K (r_pos L K k) + 1; rw [← hst]) hP hS (lv_sub hl [3, 4, 5, 6, 1, 0] rfl) (by omega)
              · skip
                refine lv_iinc (v := (nI (ac + 1))) (lv' := [(3, .int (nI (ac + 1))), (6, .int (nI (c_end L K st))), (0, .ref (E.1 43)), (1, .ref (E.1 1)), (2, .int (nI sc)), (4, .int (nI st)), (5, .int (nI k))]) hx hb dX9_placeOfBadStatement_87 hl (k := 4) rfl (z_inc (by decide)) (by decide) rfl (fun ls hl => ?_)
                refine lv_iload hx hb dX9_placeOfBadStatement_90 (lv_at hl 1 rfl) ?_
                refine lv_iconst (v := (1 : Int32)) hx hb dX9_placeOfBadStatement_92 (by decide) ?_
                refine z_iadd hx hb (a := c_end L K st) (b := 1) (n := (c_end L K st) + 1) dX9_placeOfBadStatement_93 rfl rfl rfl ?_
                refine lv_istore (lv' := [(4, .int (nI ((c_end L K st) + 1))), (3, .int (nI (ac + 1))), (6, .int (nI (c_end L K st))), (0, .ref (E.1 43)), (1, .ref (E.1 1)), (2, .int (nI sc)), (5, .int (nI k))]) hx hb dX9_placeOfBadStatement_94 hl (by decide) rfl (fun ls hl => ?_)
                refine lv_iinc (v := (nI (k + 1))) (lv' := [(5, .int (nI (k + 1))), (4, .int (nI ((c_end L K st) + 1))), (3, .int (nI (ac + 1))), (6, .int (nI (c_end L K st))), (0, .ref (E.1 43)), (1, .ref (E.1 1)), (2, .int (nI sc))]) hx hb dX9_placeOfBadStatement_96 hl (k := 6) rfl (z_inc (by decide)) (by decide) rfl (fun ls hl => ?_)
                refine lv_goto (tgt := 19) hx hb dX9_placeOfBadStatement_99 (by decide) ?_
                exact ih_19 (k + 1) sc (ac + 1) ((c_end L K st) + 1) _ _ _ (by first | assumption | omega) (by intro j hj; rcases Nat.lt_or_ge j k with q9 | q9; (exact hall j q9); (rw [show j = k by omega]; exact ⟨by omega, by unfold r_ok; rw [← hst, ← hsc, ← hac]; exact hok⟩)) (by show _ = d_n L (r_pos L K k) (r_n L K n k); rw [← hst, ← hsc]; unfold d_n; first | (rw [if_pos c_67]; done) | (rw [if_neg c_67]; done)) (by show _ = d_na L (r_pos L K k) (r_na L K na k); rw [← hst, ← hac]; unfold d_na; first | (rw [if_neg (z_hne c_67 (by decide))]; done) | (rw [if_pos c_84]; done) | (rw [if_neg c_84]; done)) (by show _ = c_end L K (r_pos L K k) + 1; rw [← hst]) hP hS (lv_sub hl [4, 5, 6, 2, 1, 0] rfl) (by omega)
            · skip
              refine lv_iinc (v := (nI (sc + 1))) (lv' := [(2, .int (nI (sc + 1))), (6, .int (nI (c_end L K st))), (0, .ref (E.1 43)), (1, .ref (E.1 1)), (3, .int (nI ac)), (4, .int (nI st)), (5, .int (nI k))]) hx hb dX9_placeOfBadStatement_70 hl (k := 3) rfl (z_inc (by decide)) (by decide) rfl (fun ls hl => ?_)
              refine lv_goto (tgt := 90) hx hb dX9_placeOfBadStatement_73 (by decide) ?_
              refine lv_iload hx hb dX9_placeOfBadStatement_90 (lv_at hl 1 rfl) ?_
              refine lv_iconst (v := (1 : Int32)) hx hb dX9_placeOfBadStatement_92 (by decide) ?_
              refine z_iadd hx hb (a := c_end L K st) (b := 1) (n := (c_end L K st) + 1) dX9_placeOfBadStatement_93 rfl rfl rfl ?_
              refine lv_istore (lv' := [(4, .int (nI ((c_end L K st) + 1))), (2, .int (nI (sc + 1))), (6, .int (nI (c_end L K st))), (0, .ref (E.1 43)), (1, .ref (E.1 1)), (3, .int (nI ac)), (5, .int (nI k))]) hx hb dX9_placeOfBadStatement_94 hl (by decide) rfl (fun ls hl => ?_)
              refine lv_iinc (v := (nI (k + 1))) (lv' := [(5, .int (nI (k + 1))), (4, .int (nI ((c_end L K st) + 1))), (2, .int (nI (sc + 1))), (6, .int (nI (c_end L K st))), (0, .ref (E.1 43)), (1, .ref (E.1 1)), (3, .int (nI ac))]) hx hb dX9_placeOfBadStatement_96 hl (k := 6) rfl (z_inc (by decide)) (by decide) rfl (fun ls hl => ?_)
              refine lv_goto (tgt := 19) hx hb dX9_placeOfBadStatement_99 (by decide) ?_
              exact ih_19 (k + 1) (sc + 1) ac ((c_end L K st) + 1) _ _ _ (by first | assumption | omega) (by intro j hj; rcases Nat.lt_or_ge j k with q9 | q9; (exact hall j q9); (rw [show j = k by omega]; exact ⟨by omega, by unfold r_ok; rw [← hst, ← hsc, ← hac]; exact hok⟩)) (by show _ = d_n L (r_pos L K k) (r_n L K n k); rw [← hst, ← hsc]; unfold d_n; first | (rw [if_pos c_67]; done) | (rw [if_neg c_67]; done)) (by show _ = d_na L (r_pos L K k) (r_na L K na k); rw [← hst, ← hac]; unfold d_na; first | (rw [if_neg (z_hne c_67 (by decide))]; done) | (rw [if_pos c_84]; done) | (rw [if_neg c_84]; done)) (by show _ = c_end L K (r_pos L K k) + 1; rw [← hst]) hP hS (lv_sub hl [4, 5, 2, 6, 1, 0] rfl) (by omega)
          · skip
            refine lv_if_ne (tgt := 59) hx hb dX9_placeOfBadStatement_53 (by decide) (fun h_ => absurd (by decide) h_) (fun _ => ?_)
            refine lv_iload hx hb dX9_placeOfBadStatement_56 (lv_at hl 5 rfl) ?_
            subst hQ_
            exact z_iret C0 hP hS (v := (nI st)) (by exact Or.inl ⟨k, hall, by omega, by unfold r_ok; rw [← hst, ← hsc, ← hac]; exact hok, by rw [← hst], rfl⟩) dX9_placeOfBadStatement_58
  exact cut_19 (_ + 1) 0 n na 0 _ _ _ (by first | assumption | omega) (by exact fun j hj => absurd hj (Nat.not_lt_zero j)) (by rfl) (by rfl) (by rfl) hP hS (lv_sub hl [4, 5, 3, 2, 1, 0] rfl) (Nat.lt_succ_self _)
theorem mlRX9_19 : Cond.methodLink RX9 19 yX9_placeOfBadLetter ∈ zU := zU_m 330 (by decide +kernel) rfl
theorem coX9_placeOfBadLetter : Cond.code yX9_placeOfBadLetter cX9_placeOfBadLetter 5 (some .int) ∈ zU := zU_m 333 (by decide +kernel) rfl
theorem imX9_placeOfBadLetter : Cond.instanceMethod yX9_placeOfBadLetter ∈ zU := zU_m 332 (by decide +kernel) rfl
theorem seX9_placeOfBadLetter : Cond.selects RX9 yX9_placeOfBadLetter yX9_placeOfBadLetter ∈ zU := zU_m 1 (by decide +kernel) rfl
theorem mlRX9_23 : Cond.methodLink RX9 23 yX9_placeOfBadStatement ∈ zU := zU_m 346 (by decide +kernel) rfl
theorem coX9_placeOfBadStatement : Cond.code yX9_placeOfBadStatement cX9_placeOfBadStatement 7 (some .int) ∈ zU := zU_m 349 (by decide +kernel) rfl
theorem imX9_placeOfBadStatement : Cond.instanceMethod yX9_placeOfBadStatement ∈ zU := zU_m 348 (by decide +kernel) rfl
theorem seX9_placeOfBadStatement : Cond.selects RX9 yX9_placeOfBadStatement yX9_placeOfBadStatement ∈ zU := zU_m 2 (by decide +kernel) rfl
set_option maxHeartbeats 4000000 in
set_option maxRecDepth 100000 in
theorem c_X9_faultIn (l : Launch) (E : zE) (G : zG) (L : Nat → Int32) (K : Nat) (hL : G 44 = L) (hK : G 43 0 = nI K) (hK96 : K ≤ 96) (n na : Nat) (hn : G 2 0 = nI n) (hna : G 1 2 = nI na) (hn10 : n ≤ 10) (hna5 : na ≤ 5)  : zMi l yX9_faultIn wsX9_faultIn ({ frames := 4, cells := 0, slots := 0, locals := 96 } : Room) E G [.ref (E.1 43), .ref (E.1 1)] (fun r1 G1 => ft_ok L K n na r1 ∧ G = G1) := by
  refine zOf (cc := cX9_faultIn) (nL := 3) (ret := (some .int)) RX9 (by decide) rfl rfl (Nat.le_of_ble_eq_true rfl) ?_
  intro p_ e_ s_ m_ a_ b_ me_ c_ ls C0 hP hS hl
  have hx := C0.1
  have hb := C0.2.1
  have hts := C0.2.2.2.2.1
  have hD : zD E (zA E s_.heap.size) := C0.2.2.2.2.2.2.2.2
  have hA : ∀ q : Nat, s_.heap.size ≤ q → zA E s_.heap.size q := fun q h => Or.inr h
  refine z_gen (fun Q_ hQ_ => ?_)
  have hl : lv_has ls 3 [(0, .ref (E.1 43)), (1, .ref (E.1 1))] := hl
  refine lv_aload_n hx hb dX9_faultIn_0 rfl (lv_at hl 0 rfl) ?_
  refine z_Vi C0 hP hD hA hS (As := []) (rest := []) (k := 43) (c_X9_placeOfBadLetter l E _ L K (hL) (hK) hK96) (cwV 0 hts (zgV zbw mlRX9_19 imX9_placeOfBadLetter seX9_placeOfBadLetter iniRX9 coX9_placeOfBadLetter) rfl rfl rfl (by decide +kernel) ⟨Nat.le_of_ble_eq_true rfl, Nat.le_of_ble_eq_true rfl⟩) (zk_lt (rfl : zk 43 = 7) (by decide)) (zd_7 E (rfl : zk 43 = 7) _) rfl rfl rfl hl.1 rfl (Nat.le_of_ble_eq_true rfl) dX9_faultIn_1 ⟨Nat.zero_le _, Nat.zero_le _⟩ (fun r1 G1 H locs hw1 hP hS => ?_)
  obtain ⟨hr1, rfl⟩ := hw1
  subst hr1
  refine lv_istore_n (lv' := [(2, .int (c_f1 L K)), (0, .ref (E.1 43)), (1, .ref (E.1 1))]) hx hb dX9_faultIn_4 rfl hl (by decide) rfl (fun ls hl => ?_)
  refine lv_iload_n hx hb dX9_faultIn_5 rfl (lv_at hl 0 rfl) ?_
  refine lv_bipush (v := (-9 : Int32)) hx hb dX9_faultIn_6 (by decide) ?_
  refine lv_icmp_eq (tgt := 17) hx hb dX9_faultIn_8 (by decide) (fun c_8 => ?_) (fun c_8 => ?_)
  · skip
    refine lv_aload_n hx hb dX9_faultIn_17 rfl (lv_at hl 1 rfl) ?_
    refine lv_aload_n hx hb dX9_faultIn_18 rfl (lv_at hl 2 rfl) ?_
    refine z_Vi C0 hP hD hA hS (As := [.ref (E.1 1)]) (rest := []) (k := 43) (c_X9_placeOfBadStatement l E _ L K (hL) (hK) hK96 n na (hn) (hna) hn10 hna5 c_8) (cwV 1 hts (zgV zbw mlRX9_23 imX9_placeOfBadStatement seX9_placeOfBadStatement iniRX9 coX9_placeOfBadStatement) rfl rfl rfl (by decide +kernel) ⟨Nat.le_of_ble_eq_true rfl, Nat.le_of_ble_eq_true rfl⟩) (zk_lt (rfl : zk 43 = 7) (by decide)) (zd_7 E (rfl : zk 43 = 7) _) rfl rfl rfl hl.1 rfl (Nat.le_of_ble_eq_true rfl) dX9_faultIn_19 ⟨Nat.zero_le _, Nat.zero_le _⟩ (fun r2 G2 H locs hw2 hP hS => ?_)
    rcases hw2 with ⟨k9, ha9, hb9, hc9, rfl, rfl⟩ | ⟨k9, ha9, hb9, rfl, rfl⟩
    · skip
      refine lv_istore_n (lv' := [(2, .int (nI (r_pos L K k9))), (0, .ref (E.1 43)), (1, .ref (E.1 1))]) hx hb dX9_faultIn_22 rfl hl (by decide) rfl (fun ls hl => ?_)
      refine lv_iload_n hx hb dX9_faultIn_23 rfl (lv_at hl 0 rfl) ?_
      refine lv_bipush (v := (-9 : Int32)) hx hb dX9_faultIn_24 (by decide) ?_
      refine lv_icmp_ne (tgt := 33) hx hb dX9_faultIn_26 (by decide) (fun c_26 => ?_) (fun c_26 => ?_)
      · skip
        refine lv_sipush (v := (-2000 : Int32)) hx hb dX9_faultIn_33 (by decide) ?_
        refine lv_iload_n hx hb dX9_faultIn_36 rfl (lv_at hl 0 rfl) ?_
        refine lv_isub hx hb dX9_faultIn_37 ?_
        subst hQ_
        exact z_iret C0 hP hS (v := ((-2000 : Int32) - (nI (r_pos L K k9)))) (by exact ⟨Or.inr ⟨c_8, k9, ha9, Or.inl ⟨hb9, hc9, rfl⟩⟩, rfl⟩) dX9_faultIn_38
      · exact absurd c_26 (nI_n9 (by omega))
    · skip
      refine lv_istore_n (lv' := [(2, .int (-9 : Int32)), (0, .ref (E.1 43)), (1, .ref (E.1 1))]) hx hb dX9_faultIn_22 rfl hl (by decide) rfl (fun ls hl => ?_)
      refine lv_iload_n hx hb dX9_faultIn_23 rfl (lv_at hl 0 rfl) ?_
      refine lv_bipush (v := (-9 : Int32)) hx hb dX9_faultIn_24 (by decide) ?_
      refine lv_icmp_ne (tgt := 33) hx hb dX9_faultIn_26 (by decide) (fun h_ => absurd (by decide) h_) (fun _ => ?_)
      refine lv_iconst (v := (0 : Int32)) hx hb dX9_faultIn_29 (by decide) ?_
      refine lv_goto (tgt := 38) hx hb dX9_faultIn_30 (by decide) ?_
      subst hQ_
      exact z_iret C0 hP hS (v := (0 : Int32)) (by exact ⟨Or.inr ⟨c_8, k9, ha9, Or.inr ⟨hb9, rfl⟩⟩, rfl⟩) dX9_faultIn_38
  · skip
    refine lv_sipush (v := (-1000 : Int32)) hx hb dX9_faultIn_11 (by decide) ?_
    refine lv_iload_n hx hb dX9_faultIn_14 rfl (lv_at hl 0 rfl) ?_
    refine lv_isub hx hb dX9_faultIn_15 ?_
    subst hQ_
    exact z_iret C0 hP hS (v := ((-1000 : Int32) - (c_f1 L K))) (by exact ⟨Or.inl ⟨c_8, rfl⟩, rfl⟩) dX9_faultIn_16
set_option maxHeartbeats 4000000 in
set_option maxRecDepth 100000 in
theorem c_X1_add (l : Launch) (E : zE) (G : zG) (n : Nat) (kd fg ln : Int32) (hn : G 2 0 = nI n) (hn10 : n < 10) : zMv l yX1_add wsX1_add ({ frames := 0, cells := 0, slots := 0, locals := 0 } : Room) E G [.ref (E.1 2), .int kd, .int fg, .int ln] (fun G1 => (∀ k, (k < 2 ∨ 5 < k) → G1 k = G k) ∧ G1 2 0 = nI (n + 1) ∧ G1 3 = upd (G 3) n kd ∧ G1 4 = upd (G 4) n fg ∧ G1 5 = upd (G 5) n ln) := by
  refine zOf (cc := cX1_add) (nL := 4) (ret := none) RX1 (by decide) rfl rfl (Nat.le_of_ble_eq_true rfl) ?_
  intro p_ e_ s_ m_ a_ b_ me_ c_ ls C0 hP hS hl
  have hx := C0.1
  have hb := C0.2.1
  have hts := C0.2.2.2.2.1
  have hD : zD E (zA E s_.heap.size) := C0.2.2.2.2.2.2.2.2
  have hA : ∀ q : Nat, s_.heap.size ≤ q → zA E s_.heap.size q := fun q h => Or.inr h
  refine z_gen (fun Q_ hQ_ => ?_)
  have hl : lv_has ls 4 [(0, .ref (E.1 2)), (1, .int kd), (2, .int fg), (3, .int ln)] := hl
  refine lv_aload_n hx hb dX1_add_0 rfl (lv_at hl 0 rfl) ?_
  refine z_get C0 hP (C := RX1) (T := TX1) (N := 4) (ci := 1) (index := 9) (k := 2) (ref := "WetSuitPedalsShoes$Course") (zk_lt (rfl : zk 2 = 1) (by decide)) (zd_1 E (rfl : zk 2 = 1) _) rfl (zmi inU_1) 0 (by decide) (zm flRX1_9) rfl (v := .int (nI n)) (congrArg (fun z => some (Value.int z)) (hn)) dX1_add_1 ?_
  refine lv_bipush (v := (10 : Int32)) hx hb dX1_add_4 (by decide) ?_
  refine z_N_ge hx hb (a := n) (b := 10) (tgt := 49) dX1_add_6 rfl rfl (by omega) (by omega) (by decide) (fun c_6 => ?_) (fun c_6 => ?_)
  · exact absurd c_6 (by omega)
  · skip
    refine lv_aload_n hx hb dX1_add_9 rfl (lv_at hl 0 rfl) ?_
    refine z_get C0 hP (C := RX1) (T := TX1) (N := 4) (ci := 1) (index := 15) (k := 2) (ref := "WetSuitPedalsShoes$Course") (zk_lt (rfl : zk 2 = 1) (by decide)) (zd_1 E (rfl : zk 2 = 1) _) rfl (zmi inU_1) 1 (by decide) (zm flRX1_15) rfl (v := .ref (E.1 3)) (rfl) dX1_add_10 ?_
    refine lv_aload_n hx hb dX1_add_13 rfl (lv_at hl 0 rfl) ?_
    refine z_get C0 hP (C := RX1) (T := TX1) (N := 4) (ci := 1) (index := 9) (k := 2) (ref := "WetSuitPedalsShoes$Course") (zk_lt (rfl : zk 2 = 1) (by decide)) (zd_1 E (rfl : zk 2 = 1) _) rfl (zmi inU_1) 0 (by decide) (zm flRX1_9) rfl (v := .int (nI n)) (congrArg (fun z => some (Value.int z)) (hn)) dX1_add_14 ?_
    refine lv_iload_n hx hb dX1_add_17 rfl (lv_at hl 1 rfl) ?_
    refine z_iast C0 hP hD hS (k := 3) (i := n) (v := kd) (F := G 3) (rfl) (rfl : zk 3 = 11) (Nat.lt_of_lt_of_eq (show n < 10 by omega) (rfl : zl 3 = 10).symm) rfl dX1_add_18 (fun H locs hP hS => ?_)
    refine lv_aload_n hx hb dX1_add_19 rfl (lv_at hl 0 rfl) ?_
    refine z_get C0 hP (C := RX1) (T := TX1) (N := 4) (ci := 1) (index := 19) (k := 2) (ref := "WetSuitPedalsShoes$Course") (zk_lt (rfl : zk 2 = 1) (by decide)) (zd_1 E (rfl : zk 2 = 1) _) rfl (zmi inU_1) 2 (by decide) (zm flRX1_19) rfl (v := .ref (E.1 4)) (rfl) dX1_add_20 ?_
    refine lv_aload_n hx hb dX1_add_23 rfl (lv_at hl 0 rfl) ?_
    refine z_get C0 hP (C := RX1) (T := TX1) (N := 4) (ci := 1) (index := 9) (k := 2) (ref := "WetSuitPedalsShoes$Course") (zk_lt (rfl : zk 2 = 1) (by decide)) (zd_1 E (rfl : zk 2 = 1) _) rfl (zmi inU_1) 0 (by decide) (zm flRX1_9) rfl (v := .int (nI n)) (congrArg (fun z => some (Value.int z)) ((congrFun (g1_n (by decide)) _).trans (hn))) dX1_add_24 ?_
    refine lv_iload_n hx hb dX1_add_27 rfl (lv_at hl 2 rfl) ?_
    refine z_iast C0 hP hD hS (k := 4) (i := n) (v := fg) (F := G 4) (g1_n (by decide)) (rfl : zk 4 = 11) (Nat.lt_of_lt_of_eq (show n < 10 by omega) (rfl : zl 4 = 10).symm) rfl dX1_add_28 (fun H locs hP hS => ?_)
    refine lv_aload_n hx hb dX1_add_29 rfl (lv_at hl 0 rfl) ?_
    refine z_get C0 hP (C := RX1) (T := TX1) (N := 4) (ci := 1) (index := 22) (k := 2) (ref := "WetSuitPedalsShoes$Course") (zk_lt (rfl : zk 2 = 1) (by decide)) (zd_1 E (rfl : zk 2 = 1) _) rfl (zmi inU_1) 3 (by decide) (zm flRX1_22) rfl (v := .ref (E.1 5)) (rfl) dX1_add_30 ?_
    refine lv_aload_n hx hb dX1_add_33 rfl (lv_at hl 0 rfl) ?_
    refine z_get C0 hP (C := RX1) (T := TX1) (N := 4) (ci := 1) (index := 9) (k := 2) (ref := "WetSuitPedalsShoes$Course") (zk_lt (rfl : zk 2 = 1) (by decide)) (zd_1 E (rfl : zk 2 = 1) _) rfl (zmi inU_1) 0 (by decide) (zm flRX1_9) rfl (v := .int (nI n)) (congrArg (fun z => some (Value.int z)) ((congrFun ((g1_n (by decide)).trans (g1_n (by decide))) _).trans (hn))) dX1_add_34 ?_
    refine lv_iload_n hx hb dX1_add_37 rfl (lv_at hl 3 rfl) ?_
    refine z_iast C0 hP hD hS (k := 5) (i := n) (v := ln) (F := G 5) ((g1_n (by decide)).trans (g1_n (by decide))) (rfl : zk 5 = 11) (Nat.lt_of_lt_of_eq (show n < 10 by omega) (rfl : zl 5 = 10).symm) rfl dX1_add_38 (fun H locs hP hS => ?_)
    refine lv_aload_n hx hb dX1_add_39 rfl (lv_at hl 0 rfl) ?_
    refine lv_dup hx hb dX1_add_40 rfl ?_
    refine z_get C0 hP (C := RX1) (T := TX1) (N := 4) (ci := 1) (index := 9) (k := 2) (ref := "WetSuitPedalsShoes$Course") (zk_lt (rfl : zk 2 = 1) (by decide)) (zd_1 E (rfl : zk 2 = 1) _) rfl (zmi inU_1) 0 (by decide) (zm flRX1_9) rfl (v := .int (nI n)) (congrArg (fun z => some (Value.int z)) ((congrFun ((g1_n (by decide)).trans ((g1_n (by decide)).trans (g1_n (by decide)))) _).trans (hn))) dX1_add_41 ?_
    refine lv_iconst (v := (1 : Int32)) hx hb dX1_add_44 (by decide) ?_
    refine z_iadd hx hb (a := n) (b := 1) (n := n + 1) dX1_add_45 rfl rfl rfl ?_
    refine z_put C0 hP hD hS (C := RX1) (T := TX1) (N := 4) (ci := 1) (index := 9) (k := 2) (ref := "WetSuitPedalsShoes$Course") (F := G 2) (ty := .int) ((g1_n (by decide)).trans ((g1_n (by decide)).trans (g1_n (by decide)))) tyX1 tyX1_ok nmX1 (zk_lt (rfl : zk 2 = 1) (by decide)) (zd_1 E (rfl : zk 2 = 1) _) rfl (zmi inU_1) 0 (by decide) (zm flRX1_9) rfl rfl (by decide +kernel) (by rfl) rfl (by show 0 < 4; decide) (upd (G 2) 0 (nI (n + 1))) ((zd_1 E (rfl : zk 2 = 1) _).trans (rfl)) dX1_add_46 (fun H locs hP hS => ?_)
    subst hQ_
    exact z_vret C0 hP hS (by exact ⟨(fun k hk => (g1_n (by omega)).trans ((g1_n (by omega)).trans ((g1_n (by omega)).trans (g1_n (by omega))))), (congrFun (g1_s _ _ _) _).trans (pk_us), (g1_n (by decide)).trans ((g1_n (by decide)).trans ((g1_n (by decide)).trans (g1_s _ _ _))), (g1_n (by decide)).trans ((g1_n (by decide)).trans (g1_s _ _ _)), (g1_n (by decide)).trans (g1_s _ _ _)⟩) dX1_add_49
set_option maxHeartbeats 4000000 in
set_option maxRecDepth 100000 in
theorem c_X0_start (l : Launch) (E : zE) (G : zG) (a : Nat) (v0 v1 v2 v3 : Int32) (ha : zIs a tAth) : zMv l yX0_start wsX0_start ({ frames := 0, cells := 0, slots := 0, locals := 0 } : Room) E G [.ref (E.1 a), .int v0, .int v1, .int v2, .int v3] (fun G1 => (∀ k, (k < a + 1 ∨ a + 2 < k) → G1 k = G k) ∧ (G1 (a + 1) 0 = v0 ∧ G1 (a + 1) 1 = v1 ∧ G1 (a + 1) 2 = v2 ∧ G1 (a + 1) 3 = v3) ∧ ∀ j, j < 10 → G1 (a + 2) j = 1) := by
  refine zOf (cc := cX0_start) (nL := 6) (ret := none) RX0 (by decide) rfl rfl (Nat.le_of_ble_eq_true rfl) ?_
  intro p_ e_ s_ m_ a_ b_ me_ c_ ls C0 hP hS hl
  have hx := C0.1
  have hb := C0.2.1
  have hts := C0.2.2.2.2.1
  have hD : zD E (zA E s_.heap.size) := C0.2.2.2.2.2.2.2.2
  have hA : ∀ q : Nat, s_.heap.size ≤ q → zA E s_.heap.size q := fun q h => Or.inr h
  refine z_gen (fun Q_ hQ_ => ?_)
  have hl : lv_has ls 6 [(0, .ref (E.1 a)), (1, .int v0), (2, .int v1), (3, .int v2), (4, .int v3)] := hl
  refine lv_aload_n hx hb dX0_start_0 rfl (lv_at hl 0 rfl) ?_
  refine z_get C0 hP (C := RX0) (T := TX0) (N := 2) (ci := 0) (index := 9) (k := a) (ref := "WetSuitPedalsShoes$Athlete") (zk_lt (ha (0, 0, 2) (by decide)).1 (by decide)) (zd_0 E (ha (0, 0, 2) (by decide)).1 _) rfl (zmi inU_0) 0 (by decide) (zm flRX0_9) rfl (v := .ref (E.1 (a + 1))) (rfl) dX0_start_1 ?_
  refine lv_iconst (v := (0 : Int32)) hx hb dX0_start_4 (by decide) ?_
  refine lv_iload_n hx hb dX0_start_5 rfl (lv_at hl 1 rfl) ?_
  refine z_iast C0 hP hD hS (k := (a + 1)) (i := 0) (v := v0) (F := G (a + 1)) (rfl) (ha (1, 11, 4) (by decide)).1 (Nat.lt_of_lt_of_eq (show 0 < 4 by decide) (ha (1, 11, 4) (by decide)).2.symm) rfl dX0_start_6 (fun H locs hP hS => ?_)
  refine lv_aload_n hx hb dX0_start_7 rfl (lv_at hl 0 rfl) ?_
  refine z_get C0 hP (C := RX0) (T := TX0) (N := 2) (ci := 0) (index := 9) (k := a) (ref := "WetSuitPedalsShoes$Athlete") (zk_lt (ha (0, 0, 2) (by decide)).1 (by decide)) (zd_0 E (ha (0, 0, 2) (by decide)).1 _) rfl (zmi inU_0) 0 (by decide) (zm flRX0_9) rfl (v := .ref (E.1 (a + 1))) (rfl) dX0_start_8 ?_
  refine lv_iconst (v := (1 : Int32)) hx hb dX0_start_11 (by decide) ?_
  refine lv_iload_n hx hb dX0_start_12 rfl (lv_at hl 2 rfl) ?_
  refine z_iast C0 hP hD hS (k := (a + 1)) (i := 1) (v := v1) (F := (upd (G (a + 1)) 0 v0)) (g1_s _ _ _) (ha (1, 11, 4) (by decide)).1 (Nat.lt_of_lt_of_eq (show 1 < 4 by decide) (ha (1, 11, 4) (by decide)).2.symm) rfl dX0_start_13 (fun H locs hP hS => ?_)
  have hP := zP_eq (g1_t _ _ _ _ : _ = (g1 G (a + 1) (upd (upd (G (a + 1)) 0 v0) 1 v1))) hP
  refine lv_aload_n hx hb dX0_start_14 rfl (lv_at hl 0 rfl) ?_
  refine z_get C0 hP (C := RX0) (T := TX0) (N := 2) (ci := 0) (index := 9) (k := a) (ref := "WetSuitPedalsShoes$Athlete") (zk_lt (ha (0, 0, 2) (by decide)).1 (by decide)) (zd_0 E (ha (0, 0, 2) (by decide)).1 _) rfl (zmi inU_0) 0 (by decide) (zm flRX0_9) rfl (v := .ref (E.1 (a + 1))) (rfl) dX0_start_15 ?_
  refine lv_iconst (v := (2 : Int32)) hx hb dX0_start_18 (by decide) ?_
  refine lv_iload_n hx hb dX0_start_19 rfl (lv_at hl 3 rfl) ?_
  refine z_iast C0 hP hD hS (k := (a + 1)) (i := 2) (v := v2) (F := (upd (upd (G (a + 1)) 0 v0) 1 v1)) (g1_s _ _ _) (ha (1, 11, 4) (by decide)).1 (Nat.lt_of_lt_of_eq (show 2 < 4 by decide) (ha (1, 11, 4) (by decide)).2.symm) rfl dX0_start_20 (fun H locs hP hS => ?_)
  have hP := zP_eq (g1_t _ _ _ _ : _ = (g1 G (a + 1) (upd (upd (upd (G (a + 1)) 0 v0) 1 v1) 2 v2))) hP
  refine lv_aload_n hx hb dX0_start_21 rfl (lv_at hl 0 rfl) ?_
  refine z_get C0 hP (C := RX0) (T := TX0) (N := 2) (ci := 0) (index := 9) (k := a) (ref := "WetSuitPedalsShoes$Athlete") (zk_lt (ha (0, 0, 2) (by decide)).1 (by decide)) (zd_0 E (ha (0, 0, 2) (by decide)).1 _) rfl (zmi inU_0) 0 (by decide) (zm flRX0_9) rfl (v := .ref (E.1 (a + 1))) (rfl) dX0_start_22 ?_
  refine lv_iconst (v := (3 : Int32)) hx hb dX0_start_25 (by decide) ?_
  refine lv_iload hx hb dX0_start_26 (lv_at hl 4 rfl) ?_
  refine z_iast C0 hP hD hS (k := (a + 1)) (i := 3) (v := v3) (F := (upd (upd (upd (G (a + 1)) 0 v0) 1 v1) 2 v2)) (g1_s _ _ _) (ha (1, 11, 4) (by decide)).1 (Nat.lt_of_lt_of_eq (show 3 < 4 by decide) (ha (1, 11, 4) (by decide)).2.symm) rfl dX0_start_28 (fun H locs hP hS => ?_)
  have hP := zP_eq (g1_t _ _ _ _ : _ = (g1 G (a + 1) (upd (upd (upd (upd (G (a + 1)) 0 v0) 1 v1) 2 v2) 3 v3))) hP
  refine lv_iconst (v := (0 : Int32)) hx hb dX0_start_29 (by decide) ?_
  refine lv_istore (lv' := [(5, .int (0 : Int32)), (0, .ref (E.1 a)), (1, .int v0), (2, .int v1), (3, .int v2), (4, .int v3)]) hx hb dX0_start_30 hl (by decide) rfl (fun ls hl => ?_)
  have cut_32 : ∀ (fuel : Nat), ∀ (i : Nat) (Gc : zG) (H : Heap) (locs : List Loc) (ls : Array Slot), (i ≤ 10) → (∀ k, (k < a + 1 ∨ a + 2 < k) → Gc k = G k) → (Gc (a + 1) 0 = v0 ∧ Gc (a + 1) 1 = v1 ∧ Gc (a + 1) 2 = v2 ∧ Gc (a + 1) 3 = v3) → (∀ j, j < i → Gc (a + 2) j = 1) → zP E Gc H → va_S (zA E s_.heap.size) s_.heap H locs → lv_has ls 6 [(0, .ref (E.1 a)), (1, .int v0), (2, .int v1), (3, .int v2), (4, .int v3), (5, .int (nI i))] → 10 - i < fuel → W p_ l e_ ({ frames := 0, cells := 0, slots := 0, locals := 0 } : Room) s_ m_ a_ b_ me_ c_ H locs 0 0 Q_ (F0 m_ 32 ls []) := by
    intro fuel
    induction fuel with
    | zero =>
      intro i  Gc  H locs ls hin hFc hab hones hP hS hl hfu
      exact absurd hfu (Nat.not_lt_zero _)
    | succ fuel ih_32 =>
      intro i  Gc  H locs ls hin hFc hab hones hP hS hl hfu_32
      refine lv_iload hx hb dX0_start_32 (lv_at hl 5 rfl) ?_
      refine lv_bipush (v := (10 : Int32)) hx hb dX0_start_34 (by decide) ?_
      refine z_N_ge hx hb (a := i) (b := 10) (tgt := 53) dX0_start_36 rfl rfl (by omega) (by omega) (by decide) (fun c_36 => ?_) (fun c_36 => ?_)
      · skip
        subst hQ_
        exact z_vret C0 hP hS (by exact ⟨hFc, hab, fun j hj => hones j (by omega)⟩) dX0_start_53
      · skip
        refine lv_aload_n hx hb dX0_start_39 rfl (lv_at hl 0 rfl) ?_
        refine z_get C0 hP (C := RX0) (T := TX0) (N := 2) (ci := 0) (index := 15) (k := a) (ref := "WetSuitPedalsShoes$Athlete") (zk_lt (ha (0, 0, 2) (by decide)).1 (by decide)) (zd_0 E (ha (0, 0, 2) (by decide)).1 _) rfl (zmi inU_0) 1 (by decide) (zm flRX0_15) rfl (v := .ref (E.1 (a + 2))) (rfl) dX0_start_40 ?_
        refine lv_iload hx hb dX0_start_43 (lv_at hl 5 rfl) ?_
        refine lv_iconst (v := (1 : Int32)) hx hb dX0_start_45 (by decide) ?_
        refine z_iast C0 hP hD hS (k := (a + 2)) (i := i) (v := (1 : Int32)) (F := Gc (a + 2)) (rfl) (ha (2, 11, 10) (by decide)).1 (Nat.lt_of_lt_of_eq (show i < 10 by omega) (ha (2, 11, 10) (by decide)).2.symm) rfl dX0_start_46 (fun H locs hP hS => ?_)
        refine lv_iinc (v := (nI (i + 1))) (lv' := [(5, .int (nI (i + 1))), (0, .ref (E.1 a)), (1, .int v0), (2, .int v1), (3, .int v2), (4, .int v3)]) hx hb dX0_start_47 hl (k := 5) rfl (z_inc (by decide)) (by decide) rfl (fun ls hl => ?_)
        refine lv_goto (tgt := 32) hx hb dX0_start_50 (by decide) ?_
        exact ih_32 (i + 1) (g1 Gc (a + 2) (upd (Gc (a + 2)) i (1 : Int32))) _ _ _ (by first | assumption | omega) (by exact fun k hk => (g1_n (by omega)).trans (hFc k (by omega))) (by exact ⟨(congrFun (g1_n (by omega)) 0).trans hab.1, (congrFun (g1_n (by omega)) 1).trans hab.2.1, (congrFun (g1_n (by omega)) 2).trans hab.2.2.1, (congrFun (g1_n (by omega)) 3).trans hab.2.2.2⟩) (by intro j hj; exact (congrFun (g1_s _ _ _) j).trans (s_up_l (g := fun _ => 1) hones rfl j hj)) hP hS (lv_sub hl [1, 2, 3, 4, 5, 0] rfl) (by omega)
  exact cut_32 (_ + 1) 0 (g1 G (a + 1) (upd (upd (upd (upd (G (a + 1)) 0 v0) 1 v1) 2 v2) 3 v3)) _ _ _ (by first | assumption | omega) (by exact fun k hk => g1_n (by omega)) (by exact ⟨((congrFun (g1_s _ _ _) _).trans ((pk_un (by decide)).trans ((pk_un (by decide)).trans ((pk_un (by decide)).trans (pk_us))))), ((congrFun (g1_s _ _ _) _).trans ((pk_un (by decide)).trans ((pk_un (by decide)).trans (pk_us)))), ((congrFun (g1_s _ _ _) _).trans ((pk_un (by decide)).trans (pk_us))), ((congrFun (g1_s _ _ _) _).trans (pk_us))⟩) (by exact fun j hj => absurd hj (Nat.not_lt_zero j)) hP hS (lv_sub hl [1, 2, 3, 4, 5, 0] rfl) (Nat.lt_succ_self _)
theorem mlRX3_29 : Cond.methodLink RX3 29 yX0_start ∈ zU := zU_m 386 (by decide +kernel) rfl
theorem coX0_start : Cond.code yX0_start cX0_start 6 none ∈ zU := zU_m 389 (by decide +kernel) rfl
theorem imX0_start : Cond.instanceMethod yX0_start ∈ zU := zU_m 387 (by decide +kernel) rfl
theorem seX0_start : Cond.selects RX0 yX0_start yX0_start ∈ zU := zU_m 388 (by decide +kernel) rfl
set_option maxHeartbeats 4000000 in
set_option maxRecDepth 100000 in
theorem c_X3_add (l : Launch) (E : zE) (G : zG) (r : Nat → Int32) (n na : Nat) (v0 v1 v2 v3 : Int32) (hR : zFA G 1 r n na) (hn10 : n ≤ 10) (hna : na < 5) : zMv l yX3_add wsX3_add ({ frames := 1, cells := 0, slots := 0, locals := 25 } : Room) E G [.ref (E.1 1), .int v0, .int v1, .int v2, .int v3] (fun G1 => (∀ k, (k < 1 ∨ 21 < k) → G1 k = G k) ∧ ∀ q : Nat → Int32, (∀ x, 2 ≤ x → x < 102 → q x = if 52 + 10 * na ≤ x ∧ x < 52 + 10 * na + 10 then 1 else if x = 35 + 4 * na then v3 else if x = 32 + 4 * na + 2 then v2 else if x = 32 + 4 * na + 1 then v1 else if x = 32 + 4 * na then v0 else r x) → zFA G1 1 q n (na + 1)) := by
  refine zOf (cc := cX3_add) (nL := 5) (ret := none) RX3 (by decide) rfl rfl (Nat.le_of_ble_eq_true rfl) ?_
  intro p_ e_ s_ m_ a_ b_ me_ c_ ls C0 hP hS hl
  have hx := C0.1
  have hb := C0.2.1
  have hts := C0.2.2.2.2.1
  have hD : zD E (zA E s_.heap.size) := C0.2.2.2.2.2.2.2.2
  have hA : ∀ q : Nat, s_.heap.size ≤ q → zA E s_.heap.size q := fun q h => Or.inr h
  refine z_gen (fun Q_ hQ_ => ?_)
  have hl : lv_has ls 5 [(0, .ref (E.1 1)), (1, .int v0), (2, .int v1), (3, .int v2), (4, .int v3)] := hl
  refine lv_aload_n hx hb dX3_add_0 rfl (lv_at hl 0 rfl) ?_
  refine z_get C0 hP (C := RX3) (T := TX3) (N := 3) (ci := 3) (index := 24) (k := 1) (ref := "WetSuitPedalsShoes$Field") (zk_lt (rfl : zk 1 = 3) (by decide)) (zd_3 E (rfl : zk 1 = 3) _) rfl (zmi inU_3) 2 (by decide) (zm flRX3_24) rfl (v := .int (nI na)) (congrArg (fun z => some (Value.int z)) (hR.2.1)) dX3_add_1 ?_
  refine lv_iconst (v := (5 : Int32)) hx hb dX3_add_4 (by decide) ?_
  refine z_N_ge hx hb (a := na) (b := 5) (tgt := 35) dX3_add_5 rfl rfl (by omega) (by omega) (by decide) (fun c_5 => ?_) (fun c_5 => ?_)
  · exact absurd c_5 (by omega)
  · skip
    refine lv_aload_n hx hb dX3_add_8 rfl (lv_at hl 0 rfl) ?_
    refine z_get C0 hP (C := RX3) (T := TX3) (N := 3) (ci := 3) (index := 20) (k := 1) (ref := "WetSuitPedalsShoes$Field") (zk_lt (rfl : zk 1 = 3) (by decide)) (zd_3 E (rfl : zk 1 = 3) _) rfl (zmi inU_3) 1 (by decide) (zm flRX3_20) rfl (v := .ref (E.1 6)) (rfl) dX3_add_9 ?_
    refine lv_aload_n hx hb dX3_add_12 rfl (lv_at hl 0 rfl) ?_
    refine z_get C0 hP (C := RX3) (T := TX3) (N := 3) (ci := 3) (index := 24) (k := 1) (ref := "WetSuitPedalsShoes$Field") (zk_lt (rfl : zk 1 = 3) (by decide)) (zd_3 E (rfl : zk 1 = 3) _) rfl (zmi inU_3) 2 (by decide) (zm flRX3_24) rfl (v := .int (nI na)) (congrArg (fun z => some (Value.int z)) (hR.2.1)) dX3_add_13 ?_
    refine z_aald C0 hP (k := 6) (i := na) (rfl : zk 6 = 12) (by omega) rfl dX3_add_16 (fun at_1 hat_1 => ?_)
    have kat_1 : zIs at_1 tAth := hat_1 ▸ zIs_ath z_lit_Fie_1 (by omega)
    refine lv_iload_n hx hb dX3_add_17 rfl (lv_at hl 1 rfl) ?_
    refine lv_iload_n hx hb dX3_add_18 rfl (lv_at hl 2 rfl) ?_
    refine lv_iload_n hx hb dX3_add_19 rfl (lv_at hl 3 rfl) ?_
    refine lv_iload hx hb dX3_add_20 (lv_at hl 4 rfl) ?_
    refine z_Vv C0 hP hD hA hS (As := [.int v0, .int v1, .int v2, .int v3]) (rest := []) (k := at_1) (c_X0_start l E _ at_1 v0 v1 v2 v3 kat_1) (cwV 4 hts (zgV zbw mlRX3_29 imX0_start seX0_start iniRX0 coX0_start) rfl rfl rfl (by decide +kernel) ⟨Nat.le_of_ble_eq_true rfl, Nat.le_of_ble_eq_true rfl⟩) (zk_lt (kat_1 (0, 0, 2) (by decide)).1 (by decide)) (zd_0 E (kat_1 (0, 0, 2) (by decide)).1 _) rfl rfl rfl hl.1 rfl (Nat.le_of_ble_eq_true rfl) dX3_add_22 ⟨Nat.zero_le _, Nat.zero_le _⟩ (fun G2 H locs hw2 hP hS => ?_)
    obtain ⟨hF2, hab2, hon2⟩ := hw2
    refine lv_aload_n hx hb dX3_add_25 rfl (lv_at hl 0 rfl) ?_
    refine lv_dup hx hb dX3_add_26 rfl ?_
    refine z_get C0 hP (C := RX3) (T := TX3) (N := 3) (ci := 3) (index := 24) (k := 1) (ref := "WetSuitPedalsShoes$Field") (zk_lt (rfl : zk 1 = 3) (by decide)) (zd_3 E (rfl : zk 1 = 3) _) rfl (zmi inU_3) 2 (by decide) (zm flRX3_24) rfl (v := .int (nI na)) (congrArg (fun z => some (Value.int z)) ((congrFun (hF2 _ (by omega)) _).trans (hR.2.1))) dX3_add_27 ?_
    refine lv_iconst (v := (1 : Int32)) hx hb dX3_add_30 (by decide) ?_
    refine z_iadd hx hb (a := na) (b := 1) (n := na + 1) dX3_add_31 rfl rfl rfl ?_
    refine z_put C0 hP hD hS (C := RX3) (T := TX3) (N := 3) (ci := 3) (index := 24) (k := 1) (ref := "WetSuitPedalsShoes$Field") (F := G 1) (ty := .int) (hF2 _ (by omega)) tyX3 tyX3_ok nmX3 (zk_lt (rfl : zk 1 = 3) (by decide)) (zd_3 E (rfl : zk 1 = 3) _) rfl (zmi inU_3) 2 (by decide) (zm flRX3_24) rfl rfl (by decide +kernel) (by rfl) rfl (by show 2 < 3; decide) (upd (G 1) 2 (nI (na + 1))) ((zd_3 E (rfl : zk 1 = 3) _).trans (rfl)) dX3_add_32 (fun H locs hP hS => ?_)
    subst hQ_
    exact z_vret C0 hP hS (by exact ⟨(fun k hk => (g1_n (by omega)).trans (hF2 k (by omega))), fun q hq => zFA_ath hR hn10 hna hat_1 ((congrFun (g1_s _ _ _) _).trans (pk_us)) ⟨(congrFun (g1_n (by omega)) 0).trans hab2.1, (congrFun (g1_n (by omega)) 1).trans hab2.2.1, (congrFun (g1_n (by omega)) 2).trans hab2.2.2.1, (congrFun (g1_n (by omega)) 3).trans hab2.2.2.2⟩ (fun j hj => (congrFun (g1_n (by omega)) j).trans (hon2 j hj)) (fun k hk => (g1_n (by omega)).trans (hF2 k (by omega))) hq⟩) dX3_add_35
theorem mlRX3_33 : Cond.methodLink RX3 33 yX3_has ∈ zU := zU_m 394 (by decide +kernel) rfl
set_option maxHeartbeats 4000000 in
set_option maxRecDepth 100000 in
theorem c_X3_planTries (l : Launch) (E : zE) (G : zG) (r : Nat → Int32) (n na a i : Nat) (v : Int32) (hR : zFA G 1 r n na) (hn10 : n ≤ 10) (hna : na ≤ 5) (ha : a < na) (hi : i < 10) : zMv l yX3_planTries wsX3_planTries ({ frames := 1, cells := 0, slots := 0, locals := 21 } : Room) E G [.ref (E.1 1), .int (nI a), .int (nI i), .int v] (fun G1 => (∀ k, (k < 1 ∨ 21 < k) → G1 k = G k) ∧ zFA G1 1 (upd r (52 + 10 * a + i) v) n na) := by
  refine zOf (cc := cX3_planTries) (nL := 4) (ret := none) RX3 (by decide) rfl rfl (Nat.le_of_ble_eq_true rfl) ?_
  intro p_ e_ s_ m_ a_ b_ me_ c_ ls C0 hP hS hl
  have hx := C0.1
  have hb := C0.2.1
  have hts := C0.2.2.2.2.1
  have hD : zD E (zA E s_.heap.size) := C0.2.2.2.2.2.2.2.2
  have hA : ∀ q : Nat, s_.heap.size ≤ q → zA E s_.heap.size q := fun q h => Or.inr h
  refine z_gen (fun Q_ hQ_ => ?_)
  have hl : lv_has ls 4 [(0, .ref (E.1 1)), (1, .int (nI a)), (2, .int (nI i)), (3, .int v)] := hl
  refine lv_aload_n hx hb dX3_planTries_0 rfl (lv_at hl 0 rfl) ?_
  refine lv_iload_n hx hb dX3_planTries_1 rfl (lv_at hl 1 rfl) ?_
  refine z_Vi C0 hP hD hA hS (As := [.int (nI a)]) (rest := []) (k := 1) (c_X3_hasN l E _ 1 na a z_lit_Fie_1 (hR.2.1) (by omega) (by omega)) (cwV 1 hts (zgV zbw mlRX3_33 imX3_has seX3_has iniRX3 coX3_has) rfl rfl rfl (by decide +kernel) ⟨Nat.le_of_ble_eq_true rfl, Nat.le_of_ble_eq_true rfl⟩) (zk_lt (rfl : zk 1 = 3) (by decide)) (zd_3 E (rfl : zk 1 = 3) _) rfl rfl rfl hl.1 rfl (Nat.le_of_ble_eq_true rfl) dX3_planTries_2 ⟨Nat.zero_le _, Nat.zero_le _⟩ (fun r1 G1 H locs hw1 hP hS => ?_)
  obtain ⟨rfl, rfl⟩ := hw1
  refine lv_if_eq (tgt := 30) hx hb dX3_planTries_5 (by decide) (fun h_ => absurd h_ (by decide)) (fun _ => ?_)
  refine lv_iload_n hx hb dX3_planTries_8 rfl (lv_at hl 2 rfl) ?_
  refine z_0_lt hx hb (a := i) (tgt := 30) dX3_planTries_9 rfl (by omega) (by decide) (fun c_9 => ?_) (fun c_9 => ?_)
  · exact absurd c_9 (by omega)
  · skip
    refine lv_iload_n hx hb dX3_planTries_12 rfl (lv_at hl 2 rfl) ?_
    refine lv_bipush (v := (10 : Int32)) hx hb dX3_planTries_13 (by decide) ?_
    refine z_N_ge hx hb (a := i) (b := 10) (tgt := 30) dX3_planTries_15 rfl rfl (by omega) (by omega) (by decide) (fun c_15 => ?_) (fun c_15 => ?_)
    · exact absurd c_15 (by omega)
    · skip
      refine lv_aload_n hx hb dX3_planTries_18 rfl (lv_at hl 0 rfl) ?_
      refine z_get C0 hP (C := RX3) (T := TX3) (N := 3) (ci := 3) (index := 20) (k := 1) (ref := "WetSuitPedalsShoes$Field") (zk_lt (rfl : zk 1 = 3) (by decide)) (zd_3 E (rfl : zk 1 = 3) _) rfl (zmi inU_3) 1 (by decide) (zm flRX3_20) rfl (v := .ref (E.1 6)) (rfl) dX3_planTries_19 ?_
      refine lv_iload_n hx hb dX3_planTries_22 rfl (lv_at hl 1 rfl) ?_
      refine z_aald C0 hP (k := 6) (i := a) (rfl : zk 6 = 12) (by omega) rfl dX3_planTries_23 (fun at_2 hat_2 => ?_)
      have kat_2 : zIs at_2 tAth := hat_2 ▸ zIs_ath z_lit_Fie_1 (by omega)
      refine z_get C0 hP (C := RX0) (T := TX0) (N := 2) (ci := 0) (index := 37) (k := at_2) (ref := "WetSuitPedalsShoes$Athlete") (zk_lt (kat_2 (0, 0, 2) (by decide)).1 (by decide)) (zd_0 E (kat_2 (0, 0, 2) (by decide)).1 _) rfl (zmi inU_0) 1 (by decide) (zm flRX3_37) rfl (v := .ref (E.1 (at_2 + 2))) (rfl) dX3_planTries_24 ?_
      refine lv_iload_n hx hb dX3_planTries_27 rfl (lv_at hl 2 rfl) ?_
      refine lv_iload_n hx hb dX3_planTries_28 rfl (lv_at hl 3 rfl) ?_
      refine z_iast C0 hP hD hS (k := (at_2 + 2)) (i := i) (v := v) (F := G (at_2 + 2)) (rfl) (kat_2 (2, 11, 10) (by decide)).1 (Nat.lt_of_lt_of_eq (show i < 10 by omega) (kat_2 (2, 11, 10) (by decide)).2.symm) rfl dX3_planTries_29 (fun H locs hP hS => ?_)
      subst hQ_
      exact z_vret C0 hP hS (by exact ⟨(fun k hk => g1_n (by omega)), zFA_tries hR hat_2 hna ha hi⟩) dX3_planTries_30
theorem mlRX9_78 : Cond.methodLink RX9 78 yX3_add ∈ zU := zU_m 382 (by decide +kernel) rfl
theorem coX3_add : Cond.code yX3_add cX3_add 5 none ∈ zU := zU_m 385 (by decide +kernel) rfl
theorem imX3_add : Cond.instanceMethod yX3_add ∈ zU := zU_m 383 (by decide +kernel) rfl
theorem seX3_add : Cond.selects RX3 yX3_add yX3_add ∈ zU := zU_m 384 (by decide +kernel) rfl
theorem mlRX9_81 : Cond.methodLink RX9 81 yX3_planTries ∈ zU := zU_m 390 (by decide +kernel) rfl
theorem coX3_planTries : Cond.code yX3_planTries cX3_planTries 4 none ∈ zU := zU_m 393 (by decide +kernel) rfl
theorem imX3_planTries : Cond.instanceMethod yX3_planTries ∈ zU := zU_m 391 (by decide +kernel) rfl
theorem seX3_planTries : Cond.selects RX3 yX3_planTries yX3_planTries ∈ zU := zU_m 392 (by decide +kernel) rfl
theorem mlRX9_74 : Cond.methodLink RX9 74 yX1_add ∈ zU := zU_m 378 (by decide +kernel) rfl
theorem coX1_add : Cond.code yX1_add cX1_add 4 none ∈ zU := zU_m 381 (by decide +kernel) rfl
theorem imX1_add : Cond.instanceMethod yX1_add ∈ zU := zU_m 379 (by decide +kernel) rfl
theorem seX1_add : Cond.selects RX1 yX1_add yX1_add ∈ zU := zU_m 380 (by decide +kernel) rfl
theorem mlRX9_84 : Cond.methodLink RX9 84 yX1_exchange ∈ zU := zU_m 398 (by decide +kernel) rfl
set_option maxHeartbeats 4000000 in
set_option maxRecDepth 100000 in
theorem c_X9_tellOne (l : Launch) (E : zE) (G : zG) (L : Nat → Int32) (K : Nat) (hL : G 44 = L) (hK : G 43 0 = nI K) (hK96 : K ≤ 96) (r : Nat → Int32) (n na s e : Nat) (hR : zFA G 1 r n na) (hn10 : n ≤ 10) (hna : na ≤ 5) (hg : gram L s e) (heK : e < K) (hd : d_ok L s e n na = true) : zMv l yX9_tellOne wsX9_tellOne ({ frames := 2, cells := 0, slots := 0, locals := 49 } : Room) E G [.ref (E.1 43), .ref (E.1 1), .int (nI s), .int (nI e)] (fun G1 => (∀ k, (k < 1 ∨ 21 < k) → G1 k = G k) ∧ zFA G1 1 (d_row L s e r n na) (d_n L s n) (d_na L s na)) := by
  refine zOf (cc := cX9_tellOne) (nL := 8) (ret := none) RX9 (by decide) rfl rfl (Nat.le_of_ble_eq_true rfl) ?_
  intro p_ e_ s_ m_ a_ b_ me_ c_ ls C0 hP hS hl
  have hx := C0.1
  have hb := C0.2.1
  have hts := C0.2.2.2.2.1
  have hD : zD E (zA E s_.heap.size) := C0.2.2.2.2.2.2.2.2
  have hA : ∀ q : Nat, s_.heap.size ≤ q → zA E s_.heap.size q := fun q h => Or.inr h
  have ge := gram_e hg
  have hse := hg.2.1
  have gl : 2 ≤ c_least (L s) := by rcases c_heads hg.1 with q | q | q | q | q <;> rw [q] <;> decide
  refine z_gen (fun Q_ hQ_ => ?_)
  have hl : lv_has ls 8 [(0, .ref (E.1 43)), (1, .ref (E.1 1)), (2, .int (nI s)), (3, .int (nI e))] := hl
  refine lv_aload_n hx hb dX9_tellOne_0 rfl (lv_at hl 0 rfl) ?_
  refine lv_iload_n hx hb dX9_tellOne_1 rfl (lv_at hl 2 rfl) ?_
  refine lv_iconst (v := (1 : Int32)) hx hb dX9_tellOne_2 (by decide) ?_
  refine z_iadd hx hb (a := s) (b := 1) (n := s + 1) dX9_tellOne_3 rfl rfl rfl ?_
  refine z_Vi C0 hP hD hA hS (As := [.int (nI (s + 1))]) (rest := []) (k := 43) (c_X9_digit l E _ L K (hL) (hK) hK96 (s + 1) (by omega)) (cwV 1 hts (zgV zbw mlRX9_63 imX9_digit seX9_digit iniRX9 coX9_digit) rfl rfl rfl (by decide +kernel) ⟨Nat.le_of_ble_eq_true rfl, Nat.le_of_ble_eq_true rfl⟩) (zk_lt (rfl : zk 43 = 7) (by decide)) (zd_7 E (rfl : zk 43 = 7) _) rfl rfl rfl hl.1 rfl (Nat.le_of_ble_eq_true rfl) dX9_tellOne_4 ⟨Nat.zero_le _, Nat.zero_le _⟩ (fun r1 G1 H locs hw1 hP hS => ?_)
  obtain ⟨hr1, rfl⟩ := hw1
  subst hr1
  refine lv_istore (lv' := [(4, .int (L (s + 1) - 48)), (0, .ref (E.1 43)), (1, .ref (E.1 1)), (2, .int (nI s)), (3, .int (nI e))]) hx hb dX9_tellOne_7 hl (by decide) rfl (fun ls hl => ?_)
  refine lv_aload_n hx hb dX9_tellOne_9 rfl (lv_at hl 1 rfl) ?_
  refine lv_iload_n hx hb dX9_tellOne_10 rfl (lv_at hl 3 rfl) ?_
  refine lv_iconst (v := (2 : Int32)) hx hb dX9_tellOne_11 (by decide) ?_
  refine z_iadd hx hb (a := s) (b := 2) (n := s + 2) dX9_tellOne_12 rfl rfl rfl ?_
  refine z_Vi C0 hP hD hA hS (As := [.int (nI (s + 2))]) (rest := []) (k := 43) (c_X9_digit l E _ L K (hL) (hK) hK96 (s + 2) (by omega)) (cwV 1 hts (zgV zbw mlRX9_63 imX9_digit seX9_digit iniRX9 coX9_digit) rfl rfl rfl (by decide +kernel) ⟨Nat.le_of_ble_eq_true rfl, Nat.le_of_ble_eq_true rfl⟩) (zk_lt (rfl : zk 43 = 7) (by decide)) (zd_7 E (rfl : zk 43 = 7) _) rfl rfl rfl hl.1 rfl (Nat.le_of_ble_eq_true rfl) dX9_tellOne_13 ⟨Nat.zero_le _, Nat.zero_le _⟩ (fun r2 G2 H locs hw2 hP hS => ?_)
  obtain ⟨hr2, rfl⟩ := hw2
  subst hr2
  refine lv_istore (lv' := [(5, .int (L (s + 2) - 48)), (4, .int (L (s + 1) - 48)), (0, .ref (E.1 43)), (1, .ref (E.1 1)), (2, .int (nI s)), (3, .int (nI e))]) hx hb dX9_tellOne_16 hl (by decide) rfl (fun ls hl => ?_)
  refine lv_aload_n hx hb dX9_tellOne_18 rfl (lv_at hl 2 rfl) ?_
  refine lv_iload_n hx hb dX9_tellOne_19 rfl (lv_at hl 4 rfl) ?_
  refine lv_iconst (v := (3 : Int32)) hx hb dX9_tellOne_20 (by decide) ?_
  refine z_iadd hx hb (a := s) (b := 3) (n := s + 3) dX9_tellOne_21 rfl rfl rfl ?_
  refine z_Vi C0 hP hD hA hS (As := [.int (nI (s + 3))]) (rest := []) (k := 43) (c_X9_digit l E _ L K (hL) (hK) hK96 (s + 3) (by omega)) (cwV 1 hts (zgV zbw mlRX9_63 imX9_digit seX9_digit iniRX9 coX9_digit) rfl rfl rfl (by decide +kernel) ⟨Nat.le_of_ble_eq_true rfl, Nat.le_of_ble_eq_true rfl⟩) (zk_lt (rfl : zk 43 = 7) (by decide)) (zd_7 E (rfl : zk 43 = 7) _) rfl rfl rfl hl.1 rfl (Nat.le_of_ble_eq_true rfl) dX9_tellOne_22 ⟨Nat.zero_le _, Nat.zero_le _⟩ (fun r3 G3 H locs hw3 hP hS => ?_)
  obtain ⟨hr3, rfl⟩ := hw3
  subst hr3
  refine lv_istore (lv' := [(6, .int (L (s + 3) - 48)), (5, .int (L (s + 2) - 48)), (4, .int (L (s + 1) - 48)), (0, .ref (E.1 43)), (1, .ref (E.1 1)), (2, .int (nI s)), (3, .int (nI e))]) hx hb dX9_tellOne_25 hl (by decide) rfl (fun ls hl => ?_)
  refine lv_aload_n hx hb dX9_tellOne_27 rfl (lv_at hl 3 rfl) ?_
  refine lv_iload_n hx hb dX9_tellOne_28 rfl (lv_at hl 5 rfl) ?_
  refine z_Vi C0 hP hD hA hS (As := [.int (nI s)]) (rest := []) (k := 43) (c_X9_letterAt l E _ L K (hL) (hK) hK96 s (by omega)) (cwV 1 hts (zgV zbw mlRX9_60 imX9_letterAt seX9_letterAt iniRX9 coX9_letterAt) rfl rfl rfl (by decide +kernel) ⟨Nat.le_of_ble_eq_true rfl, Nat.le_of_ble_eq_true rfl⟩) (zk_lt (rfl : zk 43 = 7) (by decide)) (zd_7 E (rfl : zk 43 = 7) _) rfl rfl rfl hl.1 rfl (Nat.le_of_ble_eq_true rfl) dX9_tellOne_29 ⟨Nat.zero_le _, Nat.zero_le _⟩ (fun r4 G4 H locs hw4 hP hS => ?_)
  obtain ⟨hr4, rfl⟩ := hw4
  subst hr4
  by_cases e97_32 : (L s) = (97 : Int32)
  · skip
    refine lv_lookup (tgt := 100) (off := 68) hx hb dX9_tellOne_32 (by decide) (by rw [e97_32]; rfl) (by decide) ?_
    have gd := gram_d hg (z_hne e97_32 (by decide))
    have g1 := gram_97 hg e97_32
    have hd4 := dn_e (gd (s + 1) (by omega) (by omega))
    rw [hd4.1] at hl
    have hd5 := dn_e (gd (s + 2) (by omega) (by omega))
    rw [hd5.1] at hl
    have hd6 := dn_e (gd (s + 3) (by omega) (by omega))
    rw [hd6.1] at hl
    have hd2 := of_decide_eq_true ((d_ok_97 e97_32).symm.trans hd)
    refine lv_aload_n hx hb dX9_tellOne_100 rfl (lv_at hl 4 rfl) ?_
    refine lv_iload hx hb dX9_tellOne_101 (lv_at hl 2 rfl) ?_
    refine lv_iload hx hb dX9_tellOne_103 (lv_at hl 1 rfl) ?_
    refine lv_iload hx hb dX9_tellOne_105 (lv_at hl 0 rfl) ?_
    refine lv_bipush (v := (10 : Int32)) hx hb dX9_tellOne_107 (by decide) ?_
    refine lv_aload_n hx hb dX9_tellOne_109 rfl (lv_at hl 3 rfl) ?_
    refine lv_iload_n hx hb dX9_tellOne_110 rfl (lv_at hl 5 rfl) ?_
    refine lv_iconst (v := (4 : Int32)) hx hb dX9_tellOne_111 (by decide) ?_
    refine z_iadd hx hb (a := s) (b := 4) (n := s + 4) dX9_tellOne_112 rfl rfl rfl ?_
    refine z_Vi C0 hP hD hA hS (As := [.int (nI (s + 4))]) (rest := [.int (10 : Int32), .int (nI (dn L (s + 3))), .int (nI (dn L (s + 2))), .int (nI (dn L (s + 1))), .ref (E.1 1)]) (k := 43) (c_X9_digit l E _ L K (hL) (hK) hK96 (s + 4) (by omega)) (cwV 1 hts (zgV zbw mlRX9_63 imX9_digit seX9_digit iniRX9 coX9_digit) rfl rfl rfl (by decide +kernel) ⟨Nat.le_of_ble_eq_true rfl, Nat.le_of_ble_eq_true rfl⟩) (zk_lt (rfl : zk 43 = 7) (by decide)) (zd_7 E (rfl : zk 43 = 7) _) rfl rfl rfl hl.1 rfl (Nat.le_of_ble_eq_true rfl) dX9_tellOne_113 ⟨Nat.zero_le _, Nat.zero_le _⟩ (fun r5 G5 H locs hw5 hP hS => ?_)
    obtain ⟨hr5, rfl⟩ := hw5
    have hd5 := dn_e (gd (s + 4) (by omega) (by omega))
    have hr5 : nI (dn L (s + 4)) = _ := hd5.1.symm.trans hr5
    have hd9 := hd5.2
    subst hr5
    refine z_imul hx hb (a := 10) (b := dn L (s + 4)) (n := 10 * (dn L (s + 4))) dX9_tellOne_116 rfl rfl rfl ?_
    refine lv_aload_n hx hb dX9_tellOne_117 rfl (lv_at hl 3 rfl) ?_
    refine lv_iload_n hx hb dX9_tellOne_118 rfl (lv_at hl 5 rfl) ?_
    refine lv_iconst (v := (5 : Int32)) hx hb dX9_tellOne_119 (by decide) ?_
    refine z_iadd hx hb (a := s) (b := 5) (n := s + 5) dX9_tellOne_120 rfl rfl rfl ?_
    refine z_Vi C0 hP hD hA hS (As := [.int (nI (s + 5))]) (rest := [.int (nI (10 * (dn L (s + 4)))), .int (nI (dn L (s + 3))), .int (nI (dn L (s + 2))), .int (nI (dn L (s + 1))), .ref (E.1 1)]) (k := 43) (c_X9_digit l E _ L K (hL) (hK) hK96 (s + 5) (by omega)) (cwV 1 hts (zgV zbw mlRX9_63 imX9_digit seX9_digit iniRX9 coX9_digit) rfl rfl rfl (by decide +kernel) ⟨Nat.le_of_ble_eq_true rfl, Nat.le_of_ble_eq_true rfl⟩) (zk_lt (rfl : zk 43 = 7) (by decide)) (zd_7 E (rfl : zk 43 = 7) _) rfl rfl rfl hl.1 rfl (Nat.le_of_ble_eq_true rfl) dX9_tellOne_121 ⟨Nat.zero_le _, Nat.zero_le _⟩ (fun r6 G6 H locs hw6 hP hS => ?_)
    obtain ⟨hr6, rfl⟩ := hw6
    have hd6 := dn_e (gd (s + 5) (by omega) (by omega))
    have hr6 : nI (dn L (s + 5)) = _ := hd6.1.symm.trans hr6
    have hd9 := hd6.2
    subst hr6
    refine z_iadd hx hb (a := 10 * (dn L (s + 4))) (b := dn L (s + 5)) (n := (10 * (dn L (s + 4))) + (dn L (s + 5))) dX9_tellOne_124 rfl rfl rfl ?_
    refine z_Vv C0 hP hD hA hS (As := [.int (nI (dn L (s + 1))), .int (nI (dn L (s + 2))), .int (nI (dn L (s + 3))), .int (nI ((10 * (dn L (s + 4))) + (dn L (s + 5))))]) (rest := []) (k := 1) (c_X3_add l E _ r n na (nI (dn L (s + 1))) (nI (dn L (s + 2))) (nI (dn L (s + 3))) (nI ((10 * (dn L (s + 4))) + (dn L (s + 5)))) hR hn10 (by omega)) (cwV 4 hts (zgV zbw mlRX9_78 imX3_add seX3_add iniRX3 coX3_add) rfl rfl rfl (by decide +kernel) ⟨Nat.le_of_ble_eq_true rfl, Nat.le_of_ble_eq_true rfl⟩) (zk_lt (rfl : zk 1 = 3) (by decide)) (zd_3 E (rfl : zk 1 = 3) _) rfl rfl rfl hl.1 rfl (Nat.le_of_ble_eq_true rfl) dX9_tellOne_125 ⟨Nat.zero_le _, Nat.zero_le _⟩ (fun G7 H locs hw7 hP hS => ?_)
    obtain ⟨hF7, hz7⟩ := hw7
    refine lv_goto (tgt := 193) hx hb dX9_tellOne_128 (by decide) ?_
    subst hQ_
    exact z_vret C0 hP hS (by exact ⟨(fun k hk => hF7 k (by omega)), zFA_same (hz7 (d_row L s e r n na) (fun x hx _ => d_at_97 (z_hne e97_32 (by decide)) e97_32 hx)) rfl (d_n_o (z_hne e97_32 (by decide))).symm (if_pos e97_32).symm⟩) dX9_tellOne_193
  · skip
    by_cases e112_32 : (L s) = (112 : Int32)
    · skip
      refine lv_lookup (tgt := 144) (off := 112) hx hb dX9_tellOne_32 (by decide) (by rw [e112_32]; rfl) (by decide) ?_
      have gd := gram_d hg (z_hne e112_32 (by decide))
      have g1 := gram_112 hg e112_32
      have hd4 := dn_e (gd (s + 1) (by omega) (by omega))
      rw [hd4.1] at hl
      have hd5 := dn_e (gd (s + 2) (by omega) (by omega))
      rw [hd5.1] at hl
      have hd2 := of_decide_eq_true ((d_ok_112 e112_32).symm.trans hd)
      refine lv_iload_n hx hb dX9_tellOne_144 rfl (lv_at hl 5 rfl) ?_
      refine lv_iconst (v := (2 : Int32)) hx hb dX9_tellOne_145 (by decide) ?_
      refine z_iadd hx hb (a := s) (b := 2) (n := s + 2) dX9_tellOne_146 rfl rfl rfl ?_
      refine lv_istore (lv' := [(7, .int (nI (s + 2))), (6, .int (L (s + 3) - 48)), (5, .int (nI (dn L (s + 2)))), (4, .int (nI (dn L (s + 1)))), (0, .ref (E.1 43)), (1, .ref (E.1 1)), (2, .int (nI s)), (3, .int (nI e))]) hx hb dX9_tellOne_147 hl (by decide) rfl (fun ls hl => ?_)
      have cut_149 : ∀ (fuel : Nat), ∀ (j : Nat) (Gc : zG) (H : Heap) (locs : List Loc) (ls : Array Slot), (s + 2 + j ≤ e) → (∀ k, (k < 1 ∨ 21 < k) → Gc k = G k) → (zFA Gc 1 (p_row r (dn L (s + 1)) (fun j => nI (dn L (s + 2 + j))) j) n na) → zP E Gc H → va_S (zA E s_.heap.size) s_.heap H locs → lv_has ls 8 [(0, .ref (E.1 43)), (1, .ref (E.1 1)), (2, .int (nI s)), (3, .int (nI e)), (4, .int (nI (dn L (s + 1)))), (7, .int (nI (s + 2 + j)))] → e - j < fuel → W p_ l e_ ({ frames := 2, cells := 0, slots := 0, locals := 49 } : Room) s_ m_ a_ b_ me_ c_ H locs 0 0 Q_ (F0 m_ 149 ls []) := by
        intro fuel
        induction fuel with
        | zero =>
          intro j  Gc  H locs ls hj hFc hz hP hS hl hfu
          exact absurd hfu (Nat.not_lt_zero _)
        | succ fuel ih_149 =>
          intro j  Gc  H locs ls hj hFc hz hP hS hl hfu_149
          refine lv_iload hx hb dX9_tellOne_149 (lv_at hl 5 rfl) ?_
          refine lv_iload_n hx hb dX9_tellOne_151 rfl (lv_at hl 3 rfl) ?_
          refine z_N_ge hx hb (a := s + 2 + j) (b := e) (tgt := 179) dX9_tellOne_152 rfl rfl (by omega) (by omega) (by decide) (fun c_152 => ?_) (fun c_152 => ?_)
          · skip
            refine lv_goto (tgt := 193) hx hb dX9_tellOne_179 (by decide) ?_
            subst hQ_
            exact z_vret C0 hP hS (by exact ⟨hFc, zFA_same hz (by rw [d_row_112 e112_32, show j = e - s - 2 by omega]) (d_n_o (z_hne e112_32 (by decide))).symm (d_na_o (z_hne e112_32 (by decide))).symm⟩) dX9_tellOne_193
          · skip
            refine lv_aload_n hx hb dX9_tellOne_155 rfl (lv_at hl 1 rfl) ?_
            refine lv_iload hx hb dX9_tellOne_156 (lv_at hl 4 rfl) ?_
            refine lv_iload hx hb dX9_tellOne_158 (lv_at hl 5 rfl) ?_
            refine lv_iload_n hx hb dX9_tellOne_160 rfl (lv_at hl 2 rfl) ?_
            refine z_isub hx hb (a := s + 2 + j) (b := s) (n := 2 + j) dX9_tellOne_161 rfl rfl (by omega) (by omega) ?_
            refine lv_iconst (v := (2 : Int32)) hx hb dX9_tellOne_162 (by decide) ?_
            refine z_isub hx hb (a := 2 + j) (b := 2) (n := j) dX9_tellOne_163 rfl rfl (by omega) (by omega) ?_
            refine lv_aload_n hx hb dX9_tellOne_164 rfl (lv_at hl 0 rfl) ?_
            refine lv_iload hx hb dX9_tellOne_165 (lv_at hl 5 rfl) ?_
            refine z_Vi C0 hP hD hA hS (As := [.int (nI (s + 2 + j))]) (rest := [.int (nI j), .int (nI (dn L (s + 1))), .ref (E.1 1)]) (k := 43) (c_X9_digit l E _ L K ((hFc _ (by decide)).trans (hL)) ((congrFun (hFc _ (by decide)) _).trans (hK)) hK96 (s + 2 + j) (by omega)) (cwV 1 hts (zgV zbw mlRX9_63 imX9_digit seX9_digit iniRX9 coX9_digit) rfl rfl rfl (by decide +kernel) ⟨Nat.le_of_ble_eq_true rfl, Nat.le_of_ble_eq_true rfl⟩) (zk_lt (rfl : zk 43 = 7) (by decide)) (zd_7 E (rfl : zk 43 = 7) _) rfl rfl rfl hl.1 rfl (Nat.le_of_ble_eq_true rfl) dX9_tellOne_167 ⟨Nat.zero_le _, Nat.zero_le _⟩ (fun r8 G8 H locs hw8 hP hS => ?_)
            obtain ⟨hr8, rfl⟩ := hw8
            have hd8 := dn_e (gd (s + 2 + j) (by omega) (by omega))
            have hr8 : nI (dn L (s + 2 + j)) = _ := hd8.1.symm.trans hr8
            have hd9 := hd8.2
            subst hr8
            refine z_Vv C0 hP hD hA hS (As := [.int (nI (dn L (s + 1))), .int (nI j), .int (nI (dn L (s + 2 + j)))]) (rest := []) (k := 1) (c_X3_planTries l E _ (p_row r (dn L (s + 1)) (fun j => nI (dn L (s + 2 + j))) j) n na (dn L (s + 1)) j (nI (dn L (s + 2 + j))) hz hn10 hna (by omega) (by omega)) (cwV 3 hts (zgV zbw mlRX9_81 imX3_planTries seX3_planTries iniRX3 coX3_planTries) rfl rfl rfl (by decide +kernel) ⟨Nat.le_of_ble_eq_true rfl, Nat.le_of_ble_eq_true rfl⟩) (zk_lt (rfl : zk 1 = 3) (by decide)) (zd_3 E (rfl : zk 1 = 3) _) rfl rfl rfl hl.1 rfl (Nat.le_of_ble_eq_true rfl) dX9_tellOne_170 ⟨Nat.zero_le _, Nat.zero_le _⟩ (fun G9 H locs hw9 hP hS => ?_)
            obtain ⟨hF9, hz9⟩ := hw9
            refine lv_iinc (v := (nI (s + 2 + j + 1))) (lv' := [(7, .int (nI (s + 2 + j + 1))), (0, .ref (E.1 43)), (1, .ref (E.1 1)), (2, .int (nI s)), (3, .int (nI e)), (4, .int (nI (dn L (s + 1))))]) hx hb dX9_tellOne_173 hl (k := 5) rfl (z_inc (by decide)) (by decide) rfl (fun ls hl => ?_)
            refine lv_goto (tgt := 149) hx hb dX9_tellOne_176 (by decide) ?_
            exact ih_149 (j + 1) G9 _ _ _ (by first | assumption | omega) (by exact fun k hk => (hF9 k (by omega)).trans (hFc k (by omega))) (by exact hz9) hP hS (lv_sub hl [1, 2, 3, 4, 5, 0] rfl) (by omega)
      exact cut_149 (_ + 1) 0 G _ _ _ (by first | assumption | omega) (by exact fun k hk => rfl) (by exact hR) hP hS (lv_sub hl [4, 5, 6, 7, 3, 0] rfl) (Nat.lt_succ_self _)
    · skip
      by_cases e115_32 : (L s) = (115 : Int32)
      · skip
        refine lv_lookup (tgt := 76) (off := 44) hx hb dX9_tellOne_32 (by decide) (by rw [e115_32]; rfl) (by decide) ?_
        obtain ⟨g1, g2, g3, g4⟩ := gram_115 hg e115_32
        have hd5 := dn_e (g3)
        rw [hd5.1] at hl
        have hd6 := dn_e (g4)
        rw [hd6.1] at hl
        have hd2 := of_decide_eq_true ((d_ok_115 e115_32).symm.trans hd)
        refine lv_aload_n hx hb dX9_tellOne_76 rfl (lv_at hl 4 rfl) ?_
        refine z_get C0 hP (C := RX3) (T := TX3) (N := 3) (ci := 3) (index := 43) (k := 1) (ref := "WetSuitPedalsShoes$Field") (zk_lt (rfl : zk 1 = 3) (by decide)) (zd_3 E (rfl : zk 1 = 3) _) rfl (zmi inU_3) 0 (by decide) (zm flRX9_43) rfl (v := .ref (E.1 2)) (rfl) dX9_tellOne_77 ?_
        refine lv_aload_n hx hb dX9_tellOne_80 rfl (lv_at hl 3 rfl) ?_
        refine lv_iload_n hx hb dX9_tellOne_81 rfl (lv_at hl 5 rfl) ?_
        refine lv_iconst (v := (1 : Int32)) hx hb dX9_tellOne_82 (by decide) ?_
        refine z_iadd hx hb (a := s) (b := 1) (n := s + 1) dX9_tellOne_83 rfl rfl rfl ?_
        refine z_Vi C0 hP hD hA hS (As := [.int (nI (s + 1))]) (rest := [.ref (E.1 2)]) (k := 43) (c_X9_letterAt l E _ L K (hL) (hK) hK96 (s + 1) (by omega)) (cwV 1 hts (zgV zbw mlRX9_60 imX9_letterAt seX9_letterAt iniRX9 coX9_letterAt) rfl rfl rfl (by decide +kernel) ⟨Nat.le_of_ble_eq_true rfl, Nat.le_of_ble_eq_true rfl⟩) (zk_lt (rfl : zk 43 = 7) (by decide)) (zd_7 E (rfl : zk 43 = 7) _) rfl rfl rfl hl.1 rfl (Nat.le_of_ble_eq_true rfl) dX9_tellOne_84 ⟨Nat.zero_le _, Nat.zero_le _⟩ (fun r10 G10 H locs hw10 hP hS => ?_)
        obtain ⟨hr10, rfl⟩ := hw10
        subst hr10
        refine z_Si C0 hP hD hA hS (As := [.int (L (s + 1))]) (rest := [.ref (E.1 2)]) (c_X4_ofLetter l E _ (L (s + 1))) (va_cwS 1 hts (zgS zbw mlRX9_38 stX4_ofLetter iniRX4 coX4_ofLetter) rfl rfl rfl (by decide +kernel) ⟨Nat.le_of_ble_eq_true rfl, Nat.le_of_ble_eq_true rfl⟩) rfl hl.1 rfl (Nat.le_of_ble_eq_true rfl) dX9_tellOne_87 ⟨Nat.zero_le _, Nat.zero_le _⟩ (fun r11 G11 H locs hw11 hP hS => ?_)
        obtain ⟨rfl, rfl⟩ := hw11
        refine lv_iload hx hb dX9_tellOne_90 (lv_at hl 1 rfl) ?_
        refine lv_iload hx hb dX9_tellOne_92 (lv_at hl 0 rfl) ?_
        refine z_Vv C0 hP hD hA hS (As := [.int (c_kind (L (s + 1))), .int (nI (dn L (s + 2))), .int (nI (dn L (s + 3)))]) (rest := []) (k := 2) (c_X1_add l E _ n (c_kind (L (s + 1))) (nI (dn L (s + 2))) (nI (dn L (s + 3))) (hR.1) (by omega)) (cwV 3 hts (zgV zbw mlRX9_74 imX1_add seX1_add iniRX1 coX1_add) rfl rfl rfl (by decide +kernel) ⟨Nat.le_of_ble_eq_true rfl, Nat.le_of_ble_eq_true rfl⟩) (zk_lt (rfl : zk 2 = 1) (by decide)) (zd_1 E (rfl : zk 2 = 1) _) rfl rfl rfl hl.1 rfl (Nat.le_of_ble_eq_true rfl) dX9_tellOne_94 ⟨Nat.zero_le _, Nat.zero_le _⟩ (fun G12 H locs hw12 hP hS => ?_)
        obtain ⟨hF12, hm12, h312, h412, h512⟩ := hw12
        refine lv_goto (tgt := 193) hx hb dX9_tellOne_97 (by decide) ?_
        subst hQ_
        exact z_vret C0 hP hS (by exact ⟨(fun k hk => hF12 k (by omega)), zFA_same (zFA_add (q := d_row L s e r n na) hR hd2.2 hna hm12 h312 h412 h512 hF12 (fun x hx _ => d_at_115 e115_32 hx)) rfl (if_pos e115_32).symm (d_na_o (z_hne e115_32 (by decide))).symm⟩) dX9_tellOne_193
      · skip
        by_cases e116_32 : (L s) = (116 : Int32)
        · skip
          refine lv_lookup (tgt := 131) (off := 99) hx hb dX9_tellOne_32 (by decide) (by rw [e116_32]; rfl) (by decide) ?_
          have gd := gram_d hg (z_hne e116_32 (by decide))
          have g1 := gram_116 hg e116_32
          have hd4 := dn_e (gd (s + 1) (by omega) (by omega))
          rw [hd4.1] at hl
          have hd5 := dn_e (gd (s + 2) (by omega) (by omega))
          rw [hd5.1] at hl
          have hd6 := dn_e (gd (s + 3) (by omega) (by omega))
          rw [hd6.1] at hl
          have hd2 := of_decide_eq_true ((d_ok_116 e116_32).symm.trans hd)
          refine lv_aload_n hx hb dX9_tellOne_131 rfl (lv_at hl 4 rfl) ?_
          refine lv_iload hx hb dX9_tellOne_132 (lv_at hl 2 rfl) ?_
          refine lv_iload hx hb dX9_tellOne_134 (lv_at hl 1 rfl) ?_
          refine lv_iload hx hb dX9_tellOne_136 (lv_at hl 0 rfl) ?_
          refine z_Vv C0 hP hD hA hS (As := [.int (nI (dn L (s + 1))), .int (nI (dn L (s + 2))), .int (nI (dn L (s + 3)))]) (rest := []) (k := 1) (c_X3_planTries l E _ r n na (dn L (s + 1)) (dn L (s + 2)) (nI (dn L (s + 3))) hR hn10 hna (by omega) (by omega)) (cwV 3 hts (zgV zbw mlRX9_81 imX3_planTries seX3_planTries iniRX3 coX3_planTries) rfl rfl rfl (by decide +kernel) ⟨Nat.le_of_ble_eq_true rfl, Nat.le_of_ble_eq_true rfl⟩) (zk_lt (rfl : zk 1 = 3) (by decide)) (zd_3 E (rfl : zk 1 = 3) _) rfl rfl rfl hl.1 rfl (Nat.le_of_ble_eq_true rfl) dX9_tellOne_138 ⟨Nat.zero_le _, Nat.zero_le _⟩ (fun G13 H locs hw13 hP hS => ?_)
          obtain ⟨hF13, hz13⟩ := hw13
          refine lv_goto (tgt := 193) hx hb dX9_tellOne_141 (by decide) ?_
          subst hQ_
          exact z_vret C0 hP hS (by exact ⟨(fun k hk => hF13 k (by omega)), zFA_same hz13 (d_row_116 e116_32).symm (d_n_o (z_hne e116_32 (by decide))).symm (d_na_o (z_hne e116_32 (by decide))).symm⟩) dX9_tellOne_193
        · skip
          refine lv_lookup (tgt := 182) (off := 150) hx hb dX9_tellOne_32 (by decide) ((lv_osw e97_32 rfl).trans ((lv_osw e112_32 rfl).trans ((lv_osw e115_32 rfl).trans ((lv_osw e116_32 rfl).trans (rfl))))) (by decide) ?_
          have gd := gram_d hg (e115_32)
          have g1 := gram_120 hg e97_32 e112_32 e115_32 e116_32
          have hd4 := dn_e (gd (s + 1) (by omega) (by omega))
          rw [hd4.1] at hl
          have hd5 := dn_e (gd (s + 2) (by omega) (by omega))
          rw [hd5.1] at hl
          have hd2 := of_decide_eq_true ((d_ok_x e97_32 e112_32 e115_32 e116_32).symm.trans hd)
          refine lv_aload_n hx hb dX9_tellOne_182 rfl (lv_at hl 4 rfl) ?_
          refine z_get C0 hP (C := RX3) (T := TX3) (N := 3) (ci := 3) (index := 43) (k := 1) (ref := "WetSuitPedalsShoes$Field") (zk_lt (rfl : zk 1 = 3) (by decide)) (zd_3 E (rfl : zk 1 = 3) _) rfl (zmi inU_3) 0 (by decide) (zm flRX9_43) rfl (v := .ref (E.1 2)) (rfl) dX9_tellOne_183 ?_
          refine lv_iload hx hb dX9_tellOne_186 (lv_at hl 2 rfl) ?_
          refine lv_iload hx hb dX9_tellOne_188 (lv_at hl 1 rfl) ?_
          refine z_Vv C0 hP hD hA hS (As := [.int (nI (dn L (s + 1))), .int (nI (dn L (s + 2)))]) (rest := []) (k := 2) (c_X1_exchange l E _ 2 n (dn L (s + 1)) (dn L (s + 2)) z_lit_Cou_2 (hR.1) (by omega) (by omega) (by omega)) (cwV 2 hts (zgV zbw mlRX9_84 imX1_exchange seX1_exchange iniRX1 coX1_exchange) rfl rfl rfl (by decide +kernel) ⟨Nat.le_of_ble_eq_true rfl, Nat.le_of_ble_eq_true rfl⟩) (zk_lt (rfl : zk 2 = 1) (by decide)) (zd_1 E (rfl : zk 2 = 1) _) rfl rfl rfl hl.1 rfl (Nat.le_of_ble_eq_true rfl) dX9_tellOne_190 ⟨Nat.zero_le _, Nat.zero_le _⟩ (fun G14 H locs hw14 hP hS => ?_)
          obtain rfl := hw14
          subst hQ_
          exact z_vret C0 hP hS (by exact ⟨(fun k hk => (g1_n (by omega)).trans ((g1_n (by omega)).trans (g1_n (by omega)))), zFA_same (zFA_swap hR hna (by omega) (by omega) (by omega)) (d_row_x e97_32 e112_32 e115_32 e116_32).symm (d_n_o e115_32).symm (d_na_o e97_32).symm⟩) dX9_tellOne_193
theorem mlRX9_70 : Cond.methodLink RX9 70 yX9_tellOne ∈ zU := zU_m 374 (by decide +kernel) rfl
theorem coX9_tellOne : Cond.code yX9_tellOne cX9_tellOne 8 none ∈ zU := zU_m 377 (by decide +kernel) rfl
theorem imX9_tellOne : Cond.instanceMethod yX9_tellOne ∈ zU := zU_m 376 (by decide +kernel) rfl
theorem seX9_tellOne : Cond.selects RX9 yX9_tellOne yX9_tellOne ∈ zU := zU_m 8 (by decide +kernel) rfl
set_option maxHeartbeats 4000000 in
set_option maxRecDepth 100000 in
theorem c_X9_tellTo (l : Launch) (E : zE) (G : zG) (L : Nat → Int32) (K : Nat) (hL : G 44 = L) (hK : G 43 0 = nI K) (hK96 : K ≤ 96) (r : Nat → Int32) (n na k0 : Nat) (hR : zFA G 1 r n na) (hn10 : n ≤ 10) (hna : na ≤ 5) (hf1 : c_f1 L K = -9) (hall0 : ∀ j, j < k0 → r_pos L K j < K ∧ r_ok L K n na j = true) (hk0 : K ≤ r_pos L K k0) : zMi l yX9_tellTo wsX9_tellTo ({ frames := 3, cells := 0, slots := 0, locals := 76 } : Room) E G [.ref (E.1 43), .ref (E.1 1)] (fun r1 G1 => (∀ k, (k < 1 ∨ 21 < k) → G1 k = G k) ∧ ∃ k, (∀ j, j < k → r_pos L K j < K) ∧ K ≤ r_pos L K k ∧ nI k = r1 ∧ zFA G1 1 (r_row L K r n na k) (r_n L K n k) (r_na L K na k)) := by
  refine zOf (cc := cX9_tellTo) (nL := 6) (ret := (some .int)) RX9 (by decide) rfl rfl (Nat.le_of_ble_eq_true rfl) ?_
  intro p_ e_ s_ m_ a_ b_ me_ c_ ls C0 hP hS hl
  have hx := C0.1
  have hb := C0.2.1
  have hts := C0.2.2.2.2.1
  have hD : zD E (zA E s_.heap.size) := C0.2.2.2.2.2.2.2.2
  have hA : ∀ q : Nat, s_.heap.size ≤ q → zA E s_.heap.size q := fun q h => Or.inr h
  refine z_gen (fun Q_ hQ_ => ?_)
  have hl : lv_has ls 6 [(0, .ref (E.1 43)), (1, .ref (E.1 1))] := hl
  refine lv_iconst (v := (0 : Int32)) hx hb dX9_tellTo_0 (by decide) ?_
  refine lv_istore_n (lv' := [(2, .int (0 : Int32)), (0, .ref (E.1 43)), (1, .ref (E.1 1))]) hx hb dX9_tellTo_1 rfl hl (by decide) rfl (fun ls hl => ?_)
  refine lv_iconst (v := (0 : Int32)) hx hb dX9_tellTo_2 (by decide) ?_
  refine lv_istore_n (lv' := [(3, .int (0 : Int32)), (2, .int (0 : Int32)), (0, .ref (E.1 43)), (1, .ref (E.1 1))]) hx hb dX9_tellTo_3 rfl hl (by decide) rfl (fun ls hl => ?_)
  refine lv_iconst (v := (0 : Int32)) hx hb dX9_tellTo_4 (by decide) ?_
  refine lv_istore (lv' := [(4, .int (0 : Int32)), (3, .int (0 : Int32)), (2, .int (0 : Int32)), (0, .ref (E.1 43)), (1, .ref (E.1 1))]) hx hb dX9_tellTo_5 hl (by decide) rfl (fun ls hl => ?_)
  have cut_7 : ∀ (fuel : Nat), ∀ (k st : Nat) (Gc : zG) (H : Heap) (locs : List Loc) (ls : Array Slot), (k ≤ 96) → (∀ j, j < k → r_pos L K j < K) → (st = r_pos L K k) → (∀ k, (k < 1 ∨ 21 < k) → Gc k = G k) → (zFA Gc 1 (r_row L K r n na k) (r_n L K n k) (r_na L K na k)) → zP E Gc H → va_S (zA E s_.heap.size) s_.heap H locs → lv_has ls 6 [(0, .ref (E.1 43)), (1, .ref (E.1 1)), (2, .int (nI k)), (3, .int (nI st)), (4, .int (nI k))] → 96 - k < fuel → W p_ l e_ ({ frames := 3, cells := 0, slots := 0, locals := 76 } : Room) s_ m_ a_ b_ me_ c_ H locs 0 0 Q_ (F0 m_ 7 ls []) := by
    intro fuel
    induction fuel with
    | zero =>
      intro k st  Gc  H locs ls hk hlt hst hFc hz hP hS hl hfu
      exact absurd hfu (Nat.not_lt_zero _)
    | succ fuel ih_7 =>
      intro k st  Gc  H locs ls hk hlt hst hFc hz hP hS hl hfu_7
      have hge := r_pos_ge L K k
      rw [← hst] at hge
      have hgle := (r_pos_g hf1 hK96 k hlt).2
      rw [← hst] at hgle
      refine lv_iload hx hb dX9_tellTo_7 (lv_at hl 4 rfl) ?_
      refine lv_bipush (v := (96 : Int32)) hx hb dX9_tellTo_9 (by decide) ?_
      refine z_N_ge hx hb (a := k) (b := 96) (tgt := 51) dX9_tellTo_11 rfl rfl (by omega) (by omega) (by decide) (fun c_11 => ?_) (fun c_11 => ?_)
      · skip
        refine lv_iload_n hx hb dX9_tellTo_51 rfl (lv_at hl 2 rfl) ?_
        subst hQ_
        exact z_iret C0 hP hS (v := (nI k)) (by exact ⟨hFc, k, hlt, by omega, rfl, hz⟩) dX9_tellTo_52
      · skip
        refine lv_iload_n hx hb dX9_tellTo_14 rfl (lv_at hl 3 rfl) ?_
        refine lv_aload_n hx hb dX9_tellTo_15 rfl (lv_at hl 0 rfl) ?_
        refine z_get C0 hP (C := RX9) (T := TX9) (N := 2) (ci := 7) (index := 9) (k := 43) (ref := "WetSuitPedalsShoes$Text") (zk_lt (rfl : zk 43 = 7) (by decide)) (zd_7 E (rfl : zk 43 = 7) _) rfl (zmi inU_9) 0 (by decide) (zm flRX9_9) rfl (v := .int (nI K)) (congrArg (fun z => some (Value.int z)) ((congrFun (hFc _ (by decide)) _).trans (hK))) dX9_tellTo_16 ?_
        refine z_N_ge hx hb (a := st) (b := K) (tgt := 51) dX9_tellTo_19 rfl rfl (by omega) (by omega) (by decide) (fun c_19 => ?_) (fun c_19 => ?_)
        · skip
          refine lv_iload_n hx hb dX9_tellTo_51 rfl (lv_at hl 2 rfl) ?_
          subst hQ_
          exact z_iret C0 hP hS (v := (nI k)) (by exact ⟨hFc, k, hlt, by omega, rfl, hz⟩) dX9_tellTo_52
        · skip
          have hgat := (r_pos_g hf1 hK96 k (fun j hj => hlt j hj)).1
          rw [← hst] at hgat
          obtain ⟨hgr, hend⟩ := g_all hf1 hK96 hgat (by omega)
          have hk9 := k_less hlt (by omega) hk0
          have hd9 : d_ok L st (c_end L K st) (r_n L K n k) (r_na L K na k) = true := by have h8 := (hall0 k hk9).2; unfold r_ok at h8; rw [← hst] at h8; exact h8
          have hcnt := r_cnt hn10 hna k (fun j hj => (hall0 j (by omega)).2)
          refine lv_aload_n hx hb dX9_tellTo_22 rfl (lv_at hl 0 rfl) ?_
          refine lv_iload_n hx hb dX9_tellTo_23 rfl (lv_at hl 3 rfl) ?_
          refine z_Vi C0 hP hD hA hS (As := [.int (nI st)]) (rest := []) (k := 43) (c_X9_endOf l E _ L K ((hFc _ (by decide)).trans (hL)) ((congrFun (hFc _ (by decide)) _).trans (hK)) hK96 st (by omega)) (cwV 1 hts (zgV zbw mlRX9_53 imX9_endOf seX9_endOf iniRX9 coX9_endOf) rfl rfl rfl (by decide +kernel) ⟨Nat.le_of_ble_eq_true rfl, Nat.le_of_ble_eq_true rfl⟩) (zk_lt (rfl : zk 43 = 7) (by decide)) (zd_7 E (rfl : zk 43 = 7) _) rfl rfl rfl hl.1 rfl (Nat.le_of_ble_eq_true rfl) dX9_tellTo_24 ⟨Nat.zero_le _, Nat.zero_le _⟩ (fun r1 G1 H locs hw1 hP hS => ?_)
          obtain ⟨hr1, rfl⟩ := hw1
          subst hr1
          refine lv_istore (lv' := [(5, .int (nI (c_end L K st))), (0, .ref (E.1 43)), (1, .ref (E.1 1)), (2, .int (nI k)), (3, .int (nI st)), (4, .int (nI k))]) hx hb dX9_tellTo_27 hl (by decide) rfl (fun ls hl => ?_)
          refine lv_aload_n hx hb dX9_tellTo_29 rfl (lv_at hl 1 rfl) ?_
          refine lv_aload_n hx hb dX9_tellTo_30 rfl (lv_at hl 2 rfl) ?_
          refine lv_iload_n hx hb dX9_tellTo_31 rfl (lv_at hl 4 rfl) ?_
          refine lv_iload hx hb dX9_tellTo_32 (lv_at hl 0 rfl) ?_
          refine z_Vv C0 hP hD hA hS (As := [.ref (E.1 1), .int (nI st), .int (nI (c_end L K st))]) (rest := []) (k := 43) (c_X9_tellOne l E _ L K ((hFc _ (by decide)).trans (hL)) ((congrFun (hFc _ (by decide)) _).trans (hK)) hK96 (r_row L K r n na k) (r_n L K n k) (r_na L K na k) st (c_end L K st) hz hcnt.1 hcnt.2 hgr hend hd9) (cwV 3 hts (zgV zbw mlRX9_70 imX9_tellOne seX9_tellOne iniRX9 coX9_tellOne) rfl rfl rfl (by decide +kernel) ⟨Nat.le_of_ble_eq_true rfl, Nat.le_of_ble_eq_true rfl⟩) (zk_lt (rfl : zk 43 = 7) (by decide)) (zd_7 E (rfl : zk 43 = 7) _) rfl rfl rfl hl.1 rfl (Nat.le_of_ble_eq_true rfl) dX9_tellTo_34 ⟨Nat.zero_le _, Nat.zero_le _⟩ (fun G2 H locs hw2 hP hS => ?_)
          obtain ⟨hF2, hz2⟩ := hw2
          refine lv_iinc (v := (nI (k + 1))) (lv' := [(2, .int (nI (k + 1))), (5, .int (nI (c_end L K st))), (0, .ref (E.1 43)), (1, .ref (E.1 1)), (3, .int (nI st)), (4, .int (nI k))]) hx hb dX9_tellTo_37 hl (k := 3) rfl (z_inc (by decide)) (by decide) rfl (fun ls hl => ?_)
          refine lv_iload hx hb dX9_tellTo_40 (lv_at hl 1 rfl) ?_
          refine lv_iconst (v := (1 : Int32)) hx hb dX9_tellTo_42 (by decide) ?_
          refine z_iadd hx hb (a := c_end L K st) (b := 1) (n := (c_end L K st) + 1) dX9_tellTo_43 rfl rfl rfl ?_
          refine lv_istore_n (lv' := [(3, .int (nI ((c_end L K st) + 1))), (2, .int (nI (k + 1))), (5, .int (nI (c_end L K st))), (0, .ref (E.1 43)), (1, .ref (E.1 1)), (4, .int (nI k))]) hx hb dX9_tellTo_44 rfl hl (by decide) rfl (fun ls hl => ?_)
          refine lv_iinc (v := (nI (k + 1))) (lv' := [(4, .int (nI (k + 1))), (3, .int (nI ((c_end L K st) + 1))), (2, .int (nI (k + 1))), (5, .int (nI (c_end L K st))), (0, .ref (E.1 43)), (1, .ref (E.1 1))]) hx hb dX9_tellTo_45 hl (k := 5) rfl (z_inc (by decide)) (by decide) rfl (fun ls hl => ?_)
          refine lv_goto (tgt := 7) hx hb dX9_tellTo_48 (by decide) ?_
          exact ih_7 (k + 1) ((c_end L K st) + 1) G2 _ _ _ (by first | assumption | omega) (by intro j hj; rcases Nat.lt_or_ge j k with q9 | q9; (exact hlt j q9); (rw [show j = k by omega]; omega)) (by show _ = c_end L K (r_pos L K k) + 1; rw [← hst]) (by exact fun k hk => (hF2 k (by omega)).trans (hFc k (by omega))) (by have h9 := hz2; rw [hst] at h9; exact h9) hP hS (lv_sub hl [4, 5, 2, 1, 0] rfl) (by omega)
  exact cut_7 (_ + 1) 0 0 G _ _ _ (by first | assumption | omega) (by exact fun j hj => absurd hj (Nat.not_lt_zero j)) (by rfl) (by exact fun k hk => rfl) (by exact hR) hP hS (lv_sub hl [3, 4, 2, 1, 0] rfl) (Nat.lt_succ_self _)
theorem mlRX11_83 : Cond.methodLink RX11 83 yX9_faultIn ∈ zU := zU_m 326 (by decide +kernel) rfl
theorem coX9_faultIn : Cond.code yX9_faultIn cX9_faultIn 3 (some .int) ∈ zU := zU_m 329 (by decide +kernel) rfl
theorem imX9_faultIn : Cond.instanceMethod yX9_faultIn ∈ zU := zU_m 327 (by decide +kernel) rfl
theorem seX9_faultIn : Cond.selects RX9 yX9_faultIn yX9_faultIn ∈ zU := zU_m 328 (by decide +kernel) rfl
theorem mlRX11_90 : Cond.methodLink RX11 90 yX9_forget ∈ zU := zU_m 409 (by decide +kernel) rfl
theorem coX9_forget : Cond.code yX9_forget cX9_forget 1 none ∈ zU := zU_m 412 (by decide +kernel) rfl
theorem imX9_forget : Cond.instanceMethod yX9_forget ∈ zU := zU_m 410 (by decide +kernel) rfl
theorem seX9_forget : Cond.selects RX9 yX9_forget yX9_forget ∈ zU := zU_m 411 (by decide +kernel) rfl
theorem mlRX11_87 : Cond.methodLink RX11 87 yX9_tellTo ∈ zU := zU_m 370 (by decide +kernel) rfl
theorem coX9_tellTo : Cond.code yX9_tellTo cX9_tellTo 6 (some .int) ∈ zU := zU_m 373 (by decide +kernel) rfl
theorem imX9_tellTo : Cond.instanceMethod yX9_tellTo ∈ zU := zU_m 371 (by decide +kernel) rfl
theorem seX9_tellTo : Cond.selects RX9 yX9_tellTo yX9_tellTo ∈ zU := zU_m 372 (by decide +kernel) rfl
set_option maxHeartbeats 4000000 in
set_option maxRecDepth 100000 in
theorem c_X11_race (l : Launch) (E : zE) (G : zG) (L : Nat → Int32) (K : Nat) (hL : G 44 = L) (hK : G 43 0 = nI K) (hK96 : K ≤ 96) (r : Nat → Int32) (n na : Nat) (hR : zFA G 1 r n na) (hn10 : n ≤ 10) (hna : na ≤ 5) : zMi l yX11_race wsX11_race ({ frames := 5, cells := 0, slots := 0, locals := 118 } : Room) E G [.ref (E.1 0)] (fun r1 G1 => ∃ q n2 na2, r_res L K r n na r1 q n2 na2 ∧ zFA G1 1 q n2 na2 ∧ (∀ k, (k < 1 ∨ (21 < k ∧ k < 43) ∨ 43 < k) → G1 k = G k) ∧ G1 43 0 = 0) := by
  refine zOf (cc := cX11_race) (nL := 2) (ret := (some .int)) RX11 (by decide) rfl rfl (Nat.le_of_ble_eq_true rfl) ?_
  intro p_ e_ s_ m_ a_ b_ me_ c_ ls C0 hP hS hl
  have hx := C0.1
  have hb := C0.2.1
  have hts := C0.2.2.2.2.1
  have hD : zD E (zA E s_.heap.size) := C0.2.2.2.2.2.2.2.2
  have hA : ∀ q : Nat, s_.heap.size ≤ q → zA E s_.heap.size q := fun q h => Or.inr h
  refine z_gen (fun Q_ hQ_ => ?_)
  have hl : lv_has ls 2 [(0, .ref (E.1 0))] := hl
  refine lv_aload_n hx hb dX11_race_0 rfl (lv_at hl 0 rfl) ?_
  refine z_get C0 hP (C := RX11) (T := TX11) (N := 11) (ci := 9) (index := 26) (k := 0) (ref := "WetSuitPedalsShoes") (zk_lt (rfl : zk 0 = 9) (by decide)) (zd_9 E (rfl : zk 0 = 9) _) rfl (zmi inU_11) 3 (by decide) (zm flRX11_26) rfl (v := .ref (E.1 43)) (rfl) dX11_race_1 ?_
  refine lv_aload_n hx hb dX11_race_4 rfl (lv_at hl 0 rfl) ?_
  refine z_get C0 hP (C := RX11) (T := TX11) (N := 11) (ci := 9) (index := 10) (k := 0) (ref := "WetSuitPedalsShoes") (zk_lt (rfl : zk 0 = 9) (by decide)) (zd_9 E (rfl : zk 0 = 9) _) rfl (zmi inU_11) 0 (by decide) (zm flRX11_10) rfl (v := .ref (E.1 1)) (rfl) dX11_race_5 ?_
  refine z_Vi C0 hP hD hA hS (As := [.ref (E.1 1)]) (rest := []) (k := 43) (c_X9_faultIn l E _ L K (hL) (hK) hK96 n na (hR.1) (hR.2.1) hn10 hna) (cwV 1 hts (zgV zbw mlRX11_83 imX9_faultIn seX9_faultIn iniRX9 coX9_faultIn) rfl rfl rfl (by decide +kernel) ⟨Nat.le_of_ble_eq_true rfl, Nat.le_of_ble_eq_true rfl⟩) (zk_lt (rfl : zk 43 = 7) (by decide)) (zd_7 E (rfl : zk 43 = 7) _) rfl rfl rfl hl.1 rfl (Nat.le_of_ble_eq_true rfl) dX11_race_8 ⟨Nat.zero_le _, Nat.zero_le _⟩ (fun r1 G1 H locs hw1 hP hS => ?_)
  obtain ⟨hft, rfl⟩ := hw1
  refine lv_istore_n (lv' := [(1, .int r1), (0, .ref (E.1 0))]) hx hb dX11_race_11 rfl hl (by decide) rfl (fun ls hl => ?_)
  refine lv_iload_n hx hb dX11_race_12 rfl (lv_at hl 0 rfl) ?_
  refine lv_if_ne (tgt := 28) hx hb dX11_race_13 (by decide) (fun c_13 => ?_) (fun c_13 => ?_)
  · skip
    refine lv_aload_n hx hb dX11_race_28 rfl (lv_at hl 1 rfl) ?_
    refine z_get C0 hP (C := RX11) (T := TX11) (N := 11) (ci := 9) (index := 26) (k := 0) (ref := "WetSuitPedalsShoes") (zk_lt (rfl : zk 0 = 9) (by decide)) (zd_9 E (rfl : zk 0 = 9) _) rfl (zmi inU_11) 3 (by decide) (zm flRX11_26) rfl (v := .ref (E.1 43)) (rfl) dX11_race_29 ?_
    refine z_Vv C0 hP hD hA hS (As := []) (rest := []) (k := 43) (c_X9_forget l E _ ) (cwV 0 hts (zgV zbw mlRX11_90 imX9_forget seX9_forget iniRX9 coX9_forget) rfl rfl rfl (by decide +kernel) ⟨Nat.le_of_ble_eq_true rfl, Nat.le_of_ble_eq_true rfl⟩) (zk_lt (rfl : zk 43 = 7) (by decide)) (zd_7 E (rfl : zk 43 = 7) _) rfl rfl rfl hl.1 rfl (Nat.le_of_ble_eq_true rfl) dX11_race_32 ⟨Nat.zero_le _, Nat.zero_le _⟩ (fun G2 H locs hw2 hP hS => ?_)
    obtain ⟨hF2, hro2⟩ := hw2
    refine lv_iload_n hx hb dX11_race_35 rfl (lv_at hl 0 rfl) ?_
    subst hQ_
    exact z_iret C0 hP hS (v := r1) (by exact ⟨r, n, na, ft_res1 hft c_13, zFA_fr hR (fun k hk => hF2 k (by omega)) hna, (fun k hk => hF2 k (by omega)), ((congrFun hro2 0).trans rfl)⟩) dX11_race_36
  · skip
    obtain ⟨hf1, k0, hall0, hk0⟩ := ft_0 hft c_13 hK96
    refine lv_aload_n hx hb dX11_race_16 rfl (lv_at hl 1 rfl) ?_
    refine z_get C0 hP (C := RX11) (T := TX11) (N := 11) (ci := 9) (index := 26) (k := 0) (ref := "WetSuitPedalsShoes") (zk_lt (rfl : zk 0 = 9) (by decide)) (zd_9 E (rfl : zk 0 = 9) _) rfl (zmi inU_11) 3 (by decide) (zm flRX11_26) rfl (v := .ref (E.1 43)) (rfl) dX11_race_17 ?_
    refine lv_aload_n hx hb dX11_race_20 rfl (lv_at hl 1 rfl) ?_
    refine z_get C0 hP (C := RX11) (T := TX11) (N := 11) (ci := 9) (index := 10) (k := 0) (ref := "WetSuitPedalsShoes") (zk_lt (rfl : zk 0 = 9) (by decide)) (zd_9 E (rfl : zk 0 = 9) _) rfl (zmi inU_11) 0 (by decide) (zm flRX11_10) rfl (v := .ref (E.1 1)) (rfl) dX11_race_21 ?_
    refine z_Vi C0 hP hD hA hS (As := [.ref (E.1 1)]) (rest := []) (k := 43) (c_X9_tellTo l E _ L K (hL) (hK) hK96 r n na k0 hR hn10 hna hf1 hall0 hk0) (cwV 1 hts (zgV zbw mlRX11_87 imX9_tellTo seX9_tellTo iniRX9 coX9_tellTo) rfl rfl rfl (by decide +kernel) ⟨Nat.le_of_ble_eq_true rfl, Nat.le_of_ble_eq_true rfl⟩) (zk_lt (rfl : zk 43 = 7) (by decide)) (zd_7 E (rfl : zk 43 = 7) _) rfl rfl rfl hl.1 rfl (Nat.le_of_ble_eq_true rfl) dX11_race_24 ⟨Nat.zero_le _, Nat.zero_le _⟩ (fun r3 G3 H locs hw3 hP hS => ?_)
    obtain ⟨hF3, k9, hlt9, hge9, hr9, hz9⟩ := hw3
    subst hr9
    refine lv_istore_n (lv' := [(1, .int (nI k9)), (0, .ref (E.1 0))]) hx hb dX11_race_27 rfl hl (by decide) rfl (fun ls hl => ?_)
    refine lv_aload_n hx hb dX11_race_28 rfl (lv_at hl 1 rfl) ?_
    refine z_get C0 hP (C := RX11) (T := TX11) (N := 11) (ci := 9) (index := 26) (k := 0) (ref := "WetSuitPedalsShoes") (zk_lt (rfl : zk 0 = 9) (by decide)) (zd_9 E (rfl : zk 0 = 9) _) rfl (zmi inU_11) 3 (by decide) (zm flRX11_26) rfl (v := .ref (E.1 43)) (rfl) dX11_race_29 ?_
    refine z_Vv C0 hP hD hA hS (As := []) (rest := []) (k := 43) (c_X9_forget l E _ ) (cwV 0 hts (zgV zbw mlRX11_90 imX9_forget seX9_forget iniRX9 coX9_forget) rfl rfl rfl (by decide +kernel) ⟨Nat.le_of_ble_eq_true rfl, Nat.le_of_ble_eq_true rfl⟩) (zk_lt (rfl : zk 43 = 7) (by decide)) (zd_7 E (rfl : zk 43 = 7) _) rfl rfl rfl hl.1 rfl (Nat.le_of_ble_eq_true rfl) dX11_race_32 ⟨Nat.zero_le _, Nat.zero_le _⟩ (fun G4 H locs hw4 hP hS => ?_)
    obtain ⟨hF4, hro4⟩ := hw4
    refine lv_iload_n hx hb dX11_race_35 rfl (lv_at hl 0 rfl) ?_
    subst hQ_
    exact z_iret C0 hP hS (v := (nI k9)) (by have e9 := k_same hlt9 hge9 hall0 hk0; subst e9; exact ⟨_, _, _, Or.inr ⟨hf1, k9, hall0, Or.inr ⟨hk0, rfl, rfl, rfl, rfl⟩⟩, zFA_fr hz9 (fun k hk => hF4 k (by omega)) (r_cnt hn10 hna k9 (fun j hj => (hall0 j hj).2)).2, (fun k hk => (hF4 k (by omega)).trans (hF3 k (by omega))), ((congrFun hro4 0).trans rfl)⟩) dX11_race_36
theorem mlRX11_76 : Cond.methodLink RX11 76 yX9_isFull ∈ zU := zU_m 314 (by decide +kernel) rfl
theorem coX9_isFull : Cond.code yX9_isFull cX9_isFull 1 (some .boolean) ∈ zU := zU_m 317 (by decide +kernel) rfl
theorem imX9_isFull : Cond.instanceMethod yX9_isFull ∈ zU := zU_m 315 (by decide +kernel) rfl
theorem seX9_isFull : Cond.selects RX9 yX9_isFull yX9_isFull ∈ zU := zU_m 316 (by decide +kernel) rfl
theorem mlRX11_80 : Cond.methodLink RX11 80 yX9_put ∈ zU := zU_m 318 (by decide +kernel) rfl
theorem coX9_put : Cond.code yX9_put cX9_put 2 (some .int) ∈ zU := zU_m 321 (by decide +kernel) rfl
theorem imX9_put : Cond.instanceMethod yX9_put ∈ zU := zU_m 319 (by decide +kernel) rfl
theorem seX9_put : Cond.selects RX9 yX9_put yX9_put ∈ zU := zU_m 320 (by decide +kernel) rfl
set_option maxHeartbeats 4000000 in
set_option maxRecDepth 100000 in
theorem c_X11_letter (l : Launch) (E : zE) (G : zG) (L : Nat → Int32) (K : Nat) (hL : G 44 = L) (hK : G 43 0 = nI K) (hK96 : K ≤ 96) (v : Int32) (hp : zPl G) : zMi l yX11_letter wsX11_letter ({ frames := 1, cells := 0, slots := 0, locals := 22 } : Room) E G [.ref (E.1 0), .int v] (fun r1 G1 => zTc (R_letter K L v) G r1 G1) := by
  refine zOf (cc := cX11_letter) (nL := 2) (ret := (some .int)) RX11 (by decide) rfl rfl (Nat.le_of_ble_eq_true rfl) ?_
  intro p_ e_ s_ m_ a_ b_ me_ c_ ls C0 hP hS hl
  have hx := C0.1
  have hb := C0.2.1
  have hts := C0.2.2.2.2.1
  have hD : zD E (zA E s_.heap.size) := C0.2.2.2.2.2.2.2.2
  have hA : ∀ q : Nat, s_.heap.size ≤ q → zA E s_.heap.size q := fun q h => Or.inr h
  refine z_gen (fun Q_ hQ_ => ?_)
  have hl : lv_has ls 2 [(0, .ref (E.1 0)), (1, .int v)] := hl
  refine lv_iload_n hx hb dX11_letter_0 rfl (lv_at hl 1 rfl) ?_
  refine lv_if_ge (tgt := 11) hx hb dX11_letter_1 (by decide) (fun c_1 => ?_) (fun c_1 => ?_)
  · skip
    have d_1 := Int32.not_lt.mpr c_1
    refine lv_iload_n hx hb dX11_letter_11 rfl (lv_at hl 1 rfl) ?_
    refine lv_sipush (v := (255 : Int32)) hx hb dX11_letter_12 (by decide) ?_
    refine lv_icmp_gt (tgt := 28) hx hb dX11_letter_15 (by decide) (fun c_15 => ?_) (fun c_15 => ?_)
    · skip
      have e9 := (show 255 < v from c_15)
      refine lv_aload_n hx hb dX11_letter_28 rfl (lv_at hl 0 rfl) ?_
      refine lv_bipush (v := (-6 : Int32)) hx hb dX11_letter_29 (by decide) ?_
      refine z_Vi C0 hP hD hA hS (As := [.int (-6 : Int32)]) (rest := []) (k := 0) (c_X11_refuse l E _ (-6 : Int32) 6 (by decide) (by decide) (by decide)) (cwV 1 hts (zgV zbw mlRX11_72 imX11_refuse seX11_refuse iniRX11 coX11_refuse) rfl rfl rfl (by decide +kernel) ⟨Nat.le_of_ble_eq_true rfl, Nat.le_of_ble_eq_true rfl⟩) (zk_lt (rfl : zk 0 = 9) (by decide)) (zd_9 E (rfl : zk 0 = 9) _) rfl rfl rfl hl.1 rfl (Nat.le_of_ble_eq_true rfl) dX11_letter_31 ⟨Nat.zero_le _, Nat.zero_le _⟩ (fun r1 G1 H locs hw1 hP hS => ?_)
      obtain ⟨rfl, rfl⟩ := hw1
      subst hQ_
      exact z_iret C0 hP hS (v := (-6 : Int32)) (by exact zTc_of (m := K) (k := 6) (by simp [R_letter, d_1, c_15, e9]) (fun k hk => g1_n (by omega)) ((congrFun (g1_n (by decide)) _).trans (hK)) ((g1_n (by decide)).trans (hL)) (g1_s _ _ _) (z_plk (g1_n (by decide)) hp)) dX11_letter_34
    · skip
      refine lv_aload_n hx hb dX11_letter_18 rfl (lv_at hl 0 rfl) ?_
      refine z_get C0 hP (C := RX11) (T := TX11) (N := 11) (ci := 9) (index := 26) (k := 0) (ref := "WetSuitPedalsShoes") (zk_lt (rfl : zk 0 = 9) (by decide)) (zd_9 E (rfl : zk 0 = 9) _) rfl (zmi inU_11) 3 (by decide) (zm flRX11_26) rfl (v := .ref (E.1 43)) (rfl) dX11_letter_19 ?_
      refine z_Vi C0 hP hD hA hS (As := []) (rest := []) (k := 43) (c_X9_isFull l E _ L K (hL) (hK) hK96) (cwV 0 hts (zgV zbw mlRX11_76 imX9_isFull seX9_isFull iniRX9 coX9_isFull) rfl rfl rfl (by decide +kernel) ⟨Nat.le_of_ble_eq_true rfl, Nat.le_of_ble_eq_true rfl⟩) (zk_lt (rfl : zk 43 = 7) (by decide)) (zd_7 E (rfl : zk 43 = 7) _) rfl rfl rfl hl.1 rfl (Nat.le_of_ble_eq_true rfl) dX11_letter_22 ⟨Nat.zero_le _, Nat.zero_le _⟩ (fun r2 G2 H locs hw2 hP hS => ?_)
      rcases hw2 with ⟨rfl, rfl, hfu⟩ | ⟨rfl, rfl, hfu2⟩
      · skip
        refine lv_if_eq (tgt := 35) hx hb dX11_letter_25 (by decide) (fun h_ => absurd h_ (by decide)) (fun _ => ?_)
        refine lv_aload_n hx hb dX11_letter_28 rfl (lv_at hl 0 rfl) ?_
        refine lv_bipush (v := (-6 : Int32)) hx hb dX11_letter_29 (by decide) ?_
        refine z_Vi C0 hP hD hA hS (As := [.int (-6 : Int32)]) (rest := []) (k := 0) (c_X11_refuse l E _ (-6 : Int32) 6 (by decide) (by decide) (by decide)) (cwV 1 hts (zgV zbw mlRX11_72 imX11_refuse seX11_refuse iniRX11 coX11_refuse) rfl rfl rfl (by decide +kernel) ⟨Nat.le_of_ble_eq_true rfl, Nat.le_of_ble_eq_true rfl⟩) (zk_lt (rfl : zk 0 = 9) (by decide)) (zd_9 E (rfl : zk 0 = 9) _) rfl rfl rfl hl.1 rfl (Nat.le_of_ble_eq_true rfl) dX11_letter_31 ⟨Nat.zero_le _, Nat.zero_le _⟩ (fun r3 G3 H locs hw3 hP hS => ?_)
        obtain ⟨rfl, rfl⟩ := hw3
        subst hQ_
        exact z_iret C0 hP hS (v := (-6 : Int32)) (by exact zTc_of (m := K) (k := 6) (by simp [R_letter, d_1, c_15, hfu]) (fun k hk => g1_n (by omega)) ((congrFun (g1_n (by decide)) _).trans (hK)) ((g1_n (by decide)).trans (hL)) (g1_s _ _ _) (z_plk (g1_n (by decide)) hp)) dX11_letter_34
      · skip
        have hfv : ¬ 96 ≤ K := by omega
        refine lv_if_eq (tgt := 35) hx hb dX11_letter_25 (by decide) (fun _ => ?_) (fun h_ => absurd (by decide) h_)
        refine lv_aload_n hx hb dX11_letter_35 rfl (lv_at hl 0 rfl) ?_
        refine z_get C0 hP (C := RX11) (T := TX11) (N := 11) (ci := 9) (index := 26) (k := 0) (ref := "WetSuitPedalsShoes") (zk_lt (rfl : zk 0 = 9) (by decide)) (zd_9 E (rfl : zk 0 = 9) _) rfl (zmi inU_11) 3 (by decide) (zm flRX11_26) rfl (v := .ref (E.1 43)) (rfl) dX11_letter_36 ?_
        refine lv_iload_n hx hb dX11_letter_39 rfl (lv_at hl 1 rfl) ?_
        refine z_Vi C0 hP hD hA hS (As := [.int v]) (rest := []) (k := 43) (c_X9_put l E _ L K (hL) (hK) hK96 v (by omega)) (cwV 1 hts (zgV zbw mlRX11_80 imX9_put seX9_put iniRX9 coX9_put) rfl rfl rfl (by decide +kernel) ⟨Nat.le_of_ble_eq_true rfl, Nat.le_of_ble_eq_true rfl⟩) (zk_lt (rfl : zk 43 = 7) (by decide)) (zd_7 E (rfl : zk 43 = 7) _) rfl rfl rfl hl.1 rfl (Nat.le_of_ble_eq_true rfl) dX11_letter_40 ⟨Nat.zero_le _, Nat.zero_le _⟩ (fun r4 G4 H locs hw4 hP hS => ?_)
        obtain ⟨hr4, hF4, hm04, hm14⟩ := hw4
        subst hr4
        subst hQ_
        exact z_iret C0 hP hS (v := (nI (K + 1))) (by exact zTc_of (m := K + 1) (k := 0) (by simp [R_letter, d_1, c_15, hfv]) (fun k hk => hF4 k (by omega)) ((congrFun hm04 0).trans rfl) hm14 (hF4 _ (by decide)) (z_plk (hF4 _ (by decide)) hp)) dX11_letter_43
  · skip
    have d_1 := Int32.not_le.mp c_1
    refine lv_aload_n hx hb dX11_letter_4 rfl (lv_at hl 0 rfl) ?_
    refine lv_bipush (v := (-4 : Int32)) hx hb dX11_letter_5 (by decide) ?_
    refine z_Vi C0 hP hD hA hS (As := [.int (-4 : Int32)]) (rest := []) (k := 0) (c_X11_refuse l E _ (-4 : Int32) 4 (by decide) (by decide) (by decide)) (cwV 1 hts (zgV zbw mlRX11_72 imX11_refuse seX11_refuse iniRX11 coX11_refuse) rfl rfl rfl (by decide +kernel) ⟨Nat.le_of_ble_eq_true rfl, Nat.le_of_ble_eq_true rfl⟩) (zk_lt (rfl : zk 0 = 9) (by decide)) (zd_9 E (rfl : zk 0 = 9) _) rfl rfl rfl hl.1 rfl (Nat.le_of_ble_eq_true rfl) dX11_letter_7 ⟨Nat.zero_le _, Nat.zero_le _⟩ (fun r5 G5 H locs hw5 hP hS => ?_)
    obtain ⟨rfl, rfl⟩ := hw5
    subst hQ_
    exact z_iret C0 hP hS (v := (-4 : Int32)) (by exact zTc_of (m := K) (k := 4) (by simp [R_letter, d_1]) (fun k hk => g1_n (by omega)) ((congrFun (g1_n (by decide)) _).trans (hK)) ((g1_n (by decide)).trans (hL)) (g1_s _ _ _) (z_plk (g1_n (by decide)) hp)) dX11_letter_10
