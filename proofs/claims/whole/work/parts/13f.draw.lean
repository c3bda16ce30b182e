/-! laid by wip/whole/vcg.py -/
set_option maxHeartbeats 4000000 in
set_option maxRecDepth 100000 in
theorem c_X11_draw (l : Launch) (E : zE) (G : zG) (r : Nat → Int32) (n na : Nat) (athlete what : Int32) (hR : zFA G 1 r n na) (hn10 : n ≤ 10) (hna : na ≤ 5) (hp : zPl G) (hkd : zKd r n) (hV : zVr r n na) : zMi l yX11_draw wsX11_draw ({ frames := 5, cells := 0, slots := 0, locals := 111 } : Room) E G [.ref (E.1 0), .int athlete, .int what] (fun r1 G1 => zQc (A_draw r n na athlete what) G r1 G1) := by
  refine zOf (cc := cX11_draw) (nL := 8) (ret := (some .int)) RX11 (by decide) rfl rfl (Nat.le_of_ble_eq_true rfl) ?_
  intro p_ e_ s_ m_ a_ b_ me_ c_ ls C0 hP hS hl
  have hx := C0.1
  have hb := C0.2.1
  have hts := C0.2.2.2.2.1
  have hD : zD E (zA E s_.heap.size) := C0.2.2.2.2.2.2.2.2
  have hA : ∀ q : Nat, s_.heap.size ≤ q → zA E s_.heap.size q := fun q h => Or.inr h
  refine z_gen (fun Q_ hQ_ => ?_)
  have hl : lv_has ls 8 [(0, .ref (E.1 0)), (1, .int athlete), (2, .int what)] := hl
  refine lv_aload_n hx hb dX11_draw_0 rfl (lv_at hl 0 rfl) ?_
  refine z_get C0 hP (C := RX11) (T := TX11) (N := 11) (ci := 9) (index := 10) (k := 0) (ref := "WetSuitPedalsShoes") (zk_lt (rfl : zk 0 = 9) (by decide)) (zd_9 E (rfl : zk 0 = 9) _) rfl (zmi inU_11) 0 (by decide) (zm flRX11_10) rfl (v := .ref (E.1 1)) (rfl) dX11_draw_1 ?_
  refine lv_iload_n hx hb dX11_draw_4 rfl (lv_at hl 1 rfl) ?_
  refine z_Vi C0 hP hD hA hS (As := [.int athlete]) (rest := []) (k := 1) (c_X3_has l E _ 1 na athlete z_lit_Fie_1 (hR.2.1) (by omega)) (cwV 1 hts (zgV zbw mlRX11_117 imX3_has seX3_has iniRX3 coX3_has) rfl rfl rfl (by decide +kernel) ⟨Nat.le_of_ble_eq_true rfl, Nat.le_of_ble_eq_true rfl⟩) (zk_lt (rfl : zk 1 = 3) (by decide)) (zd_3 E (rfl : zk 1 = 3) _) rfl rfl rfl hl.1 rfl (Nat.le_of_ble_eq_true rfl) dX11_draw_5 ⟨Nat.zero_le _, Nat.zero_le _⟩ (fun r1 G1 H locs hw1 hP hS => ?_)
  rcases hw1 with ⟨rfl, rfl, ia, hia, rfl⟩ | ⟨rfl, rfl, hno1⟩
  · skip
    have hz_ia := zin_t hia (by omega)
    have hy_ia : zix (nI ia) = ia := zix_n (by omega)
    refine lv_if_ne (tgt := 17) hx hb dX11_draw_8 (by decide) (fun _ => ?_) (fun h_ => absurd h_ (by decide))
    refine lv_iload_n hx hb dX11_draw_17 rfl (lv_at hl 2 rfl) ?_
    refine lv_if_lt (tgt := 26) hx hb dX11_draw_18 (by decide) (fun c_18 => ?_) (fun c_18 => ?_)
    · skip
      refine lv_aload_n hx hb dX11_draw_26 rfl (lv_at hl 0 rfl) ?_
      refine lv_bipush (v := (-2 : Int32)) hx hb dX11_draw_27 (by decide) ?_
      refine z_Vi C0 hP hD hA hS (As := [.int (-2 : Int32)]) (rest := []) (k := 0) (c_X11_refuse l E _ (-2 : Int32) 2 (by decide) (by decide) (by decide)) (cwV 1 hts (zgV zbw mlRX11_72 imX11_refuse seX11_refuse iniRX11 coX11_refuse) rfl rfl rfl (by decide +kernel) ⟨Nat.le_of_ble_eq_true rfl, Nat.le_of_ble_eq_true rfl⟩) (zk_lt (rfl : zk 0 = 9) (by decide)) (zd_9 E (rfl : zk 0 = 9) _) rfl rfl rfl hl.1 rfl (Nat.le_of_ble_eq_true rfl) dX11_draw_29 ⟨Nat.zero_le _, Nat.zero_le _⟩ (fun r2 G2 H locs hw2 hP hS => ?_)
      obtain ⟨rfl, rfl⟩ := hw2
      subst hQ_
      exact z_iret C0 hP hS (v := (-2 : Int32)) (by exact zQc_of (k := 2) (by simp [A_draw, hz_ia, hy_ia, c_18]) (fun k hk => g1_n (by omega)) (g1_s _ _ _) (z_plk (g1_n (by decide)) hp)) dX11_draw_32
    · skip
      refine lv_iload_n hx hb dX11_draw_21 rfl (lv_at hl 2 rfl) ?_
      refine lv_iconst (v := (1 : Int32)) hx hb dX11_draw_22 (by decide) ?_
      refine lv_icmp_le (tgt := 33) hx hb dX11_draw_23 (by decide) (fun c_23 => ?_) (fun c_23 => ?_)
      · skip
        have d_23 := Int32.not_lt.mpr c_23
        refine lv_aload_n hx hb dX11_draw_33 rfl (lv_at hl 0 rfl) ?_
        refine lv_iload_n hx hb dX11_draw_34 rfl (lv_at hl 1 rfl) ?_
        refine z_Vi C0 hP hD hA hS (As := [.int (nI ia)]) (rest := []) (k := 0) (c_X11_runPlan l E _ r n na ia hR hkd hn10 hna (by omega)) (cwV 1 hts (zgV zbw mlRX11_142 imX11_runPlan seX11_runPlan iniRX11 coX11_runPlan) rfl rfl rfl (by decide +kernel) ⟨Nat.le_of_ble_eq_true rfl, Nat.le_of_ble_eq_true rfl⟩) (zk_lt (rfl : zk 0 = 9) (by decide)) (zd_9 E (rfl : zk 0 = 9) _) rfl rfl rfl hl.1 rfl (Nat.le_of_ble_eq_true rfl) dX11_draw_35 ⟨Nat.zero_le _, Nat.zero_le _⟩ (fun r3 G3 H locs hw3 hP hS => ?_)
        obtain ⟨hr3, hF3, hTA3, hdr3, h33⟩ := hw3
        subst hr3
        refine lv_istore_n (lv' := [(3, .int (q_fin r n ia)), (0, .ref (E.1 0)), (1, .int (nI ia)), (2, .int what)]) hx hb dX11_draw_38 rfl hl (by decide) rfl (fun ls hl => ?_)
        refine lv_bipush (v := (-9 : Int32)) hx hb dX11_draw_39 (by decide) ?_
        refine lv_istore (lv' := [(4, .int (-9 : Int32)), (3, .int (q_fin r n ia)), (0, .ref (E.1 0)), (1, .int (nI ia)), (2, .int what)]) hx hb dX11_draw_41 hl (by decide) rfl (fun ls hl => ?_)
        refine lv_bipush (v := (-9 : Int32)) hx hb dX11_draw_43 (by decide) ?_
        refine lv_istore (lv' := [(5, .int (-9 : Int32)), (4, .int (-9 : Int32)), (3, .int (q_fin r n ia)), (0, .ref (E.1 0)), (1, .int (nI ia)), (2, .int what)]) hx hb dX11_draw_45 hl (by decide) rfl (fun ls hl => ?_)
        refine lv_iconst (v := (0 : Int32)) hx hb dX11_draw_47 (by decide) ?_
        refine lv_istore (lv' := [(6, .int (0 : Int32)), (5, .int (-9 : Int32)), (4, .int (-9 : Int32)), (3, .int (q_fin r n ia)), (0, .ref (E.1 0)), (1, .int (nI ia)), (2, .int what)]) hx hb dX11_draw_48 hl (by decide) rfl (fun ls hl => ?_)
        have cut_50 : ∀ (fuel : Nat), ∀ (i : Nat) (b z : Int32) (Gc : zG) (H : Heap) (locs : List Loc) (ls : Array Slot), (i ≤ na) → (∀ k, (k < 48 ∨ 58 < k) → Gc k = G k) → (c_up (q_dr r n ia) b z i) → zP E Gc H → va_S (zA E s_.heap.size) s_.heap H locs → lv_has ls 8 [(0, .ref (E.1 0)), (1, .int (nI ia)), (2, .int what), (3, .int (q_fin r n ia)), (4, .int z), (5, .int b), (6, .int (nI i))] → na - i < fuel → W p_ l e_ ({ frames := 5, cells := 0, slots := 0, locals := 111 } : Room) s_ m_ a_ b_ me_ c_ H locs 0 0 Q_ (F0 m_ 50 ls []) := by
          intro fuel
          induction fuel with
          | zero =>
            intro i  b z  Gc  H locs ls hin hFc hob hP hS hl hfu
            exact absurd hfu (Nat.not_lt_zero _)
          | succ fuel ih_50 =>
            intro i  b z  Gc  H locs ls hin hFc hob hP hS hl hfu_50
            refine lv_iload hx hb dX11_draw_50 (lv_at hl 6 rfl) ?_
            refine lv_aload_n hx hb dX11_draw_52 rfl (lv_at hl 0 rfl) ?_
            refine z_get C0 hP (C := RX11) (T := TX11) (N := 11) (ci := 9) (index := 10) (k := 0) (ref := "WetSuitPedalsShoes") (zk_lt (rfl : zk 0 = 9) (by decide)) (zd_9 E (rfl : zk 0 = 9) _) rfl (zmi inU_11) 0 (by decide) (zm flRX11_10) rfl (v := .ref (E.1 1)) (rfl) dX11_draw_53 ?_
            refine z_get C0 hP (C := RX3) (T := TX3) (N := 3) (ci := 3) (index := 241) (k := 1) (ref := "WetSuitPedalsShoes$Field") (zk_lt (rfl : zk 1 = 3) (by decide)) (zd_3 E (rfl : zk 1 = 3) _) rfl (zmi inU_3) 2 (by decide) (zm flRX11_241) rfl (v := .int (nI na)) (congrArg (fun z => some (Value.int z)) ((congrFun (hFc _ (by decide)) _).trans (hR.2.1))) dX11_draw_56 ?_
            refine z_N_ge hx hb (a := i) (b := na) (tgt := 105) dX11_draw_59 rfl rfl (by omega) (by omega) (by decide) (fun c_59 => ?_) (fun c_59 => ?_)
            · skip
              obtain ⟨e1, e2⟩ := c_up_end hob (show i = na by omega)
              refine lv_iload_n hx hb dX11_draw_105 rfl (lv_at hl 2 rfl) ?_
              refine lv_if_ne (tgt := 114) hx hb dX11_draw_106 (by decide) (fun c_106 => ?_) (fun c_106 => ?_)
              · skip
                refine lv_iload hx hb dX11_draw_114 (lv_at hl 5 rfl) ?_
                subst hQ_
                exact z_iret C0 hP hS (v := b) (by rcases e2 with ⟨e4, e5⟩ | ⟨e4, e5⟩; (exact zQc_of (k := 0) (by simp [A_draw, hz_ia, hy_ia, c_18, d_23, c_59, e1, c_106, e4, e5]) (fun k hk => hFc k (by omega)) (hFc _ (by decide)) (z_plk (hFc _ (by decide)) hp)); (exact zQc_of (k := 0) (by simp [A_draw, hz_ia, hy_ia, c_18, d_23, c_59, e1, c_106, e4, e5]) (fun k hk => hFc k (by omega)) (hFc _ (by decide)) (z_plk (hFc _ (by decide)) hp))) dX11_draw_116
              · skip
                refine lv_iload hx hb dX11_draw_109 (lv_at hl 4 rfl) ?_
                refine lv_goto (tgt := 116) hx hb dX11_draw_111 (by decide) ?_
                subst hQ_
                exact z_iret C0 hP hS (v := z) (by rcases e2 with ⟨e4, e5⟩ | ⟨e4, e5⟩; (exact zQc_of (k := 0) (by simp [A_draw, hz_ia, hy_ia, c_18, d_23, c_59, e1, c_106, e4, e5]) (fun k hk => hFc k (by omega)) (hFc _ (by decide)) (z_plk (hFc _ (by decide)) hp)); (exact zQc_of (k := 0) (by simp [A_draw, hz_ia, hy_ia, c_18, d_23, c_59, e1, c_106, e4, e5]) (fun k hk => hFc k (by omega)) (hFc _ (by decide)) (z_plk (hFc _ (by decide)) hp))) dX11_draw_116
            · skip
              refine lv_iload_n hx hb dX11_draw_62 rfl (lv_at hl 3 rfl) ?_
              refine lv_aload_n hx hb dX11_draw_63 rfl (lv_at hl 0 rfl) ?_
              refine lv_iload hx hb dX11_draw_64 (lv_at hl 6 rfl) ?_
              refine z_Vi C0 hP hD hA hS (As := [.int (nI i)]) (rest := [.int (q_fin r n ia)]) (k := 0) (c_X11_runPlan l E _ r n na i (zFA_fr hR (fun k hk => hFc k (by omega)) hna) hkd hn10 hna (by omega)) (cwV 1 hts (zgV zbw mlRX11_142 imX11_runPlan seX11_runPlan iniRX11 coX11_runPlan) rfl rfl rfl (by decide +kernel) ⟨Nat.le_of_ble_eq_true rfl, Nat.le_of_ble_eq_true rfl⟩) (zk_lt (rfl : zk 0 = 9) (by decide)) (zd_9 E (rfl : zk 0 = 9) _) rfl rfl rfl hl.1 rfl (Nat.le_of_ble_eq_true rfl) dX11_draw_66 ⟨Nat.zero_le _, Nat.zero_le _⟩ (fun r4 G4 H locs hw4 hP hS => ?_)
              obtain ⟨hr4, hF4, hTA4, hdr4, h34⟩ := hw4
              subst hr4
              refine lv_isub hx hb dX11_draw_69 ?_
              refine z_eqi (y := (q_dr r n ia i)) (rfl) ?_
              refine lv_istore (lv' := [(7, .int (q_dr r n ia i)), (0, .ref (E.1 0)), (1, .int (nI ia)), (2, .int what), (3, .int (q_fin r n ia)), (4, .int z), (5, .int b), (6, .int (nI i))]) hx hb dX11_draw_70 hl (by decide) rfl (fun ls hl => ?_)
              refine lv_iload hx hb dX11_draw_72 (lv_at hl 0 rfl) ?_
              refine lv_if_le (tgt := 99) hx hb dX11_draw_74 (by decide) (fun c_74 => ?_) (fun c_74 => ?_)
              · skip
                have d_74 := Int32.not_lt.mpr c_74
                have hob := c_up_n hob (Or.inl d_74)
                refine lv_iinc (v := (nI (i + 1))) (lv' := [(6, .int (nI (i + 1))), (7, .int (q_dr r n ia i)), (0, .ref (E.1 0)), (1, .int (nI ia)), (2, .int what), (3, .int (q_fin r n ia)), (4, .int z), (5, .int b)]) hx hb dX11_draw_99 hl (k := 7) rfl (z_inc (by decide)) (by decide) rfl (fun ls hl => ?_)
                refine lv_goto (tgt := 50) hx hb dX11_draw_102 (by decide) ?_
                exact ih_50 (i + 1) b z G4 _ _ _ (by first | assumption | omega) (by exact fun k hk => (hF4 k (by omega)).trans (hFc k (by omega))) (by exact hob) hP hS (lv_sub hl [2, 3, 4, 5, 6, 7, 0] rfl) (by omega)
              · skip
                have d_74 := Int32.not_le.mp c_74
                refine lv_iload hx hb dX11_draw_77 (lv_at hl 5 rfl) ?_
                refine lv_bipush (v := (-9 : Int32)) hx hb dX11_draw_79 (by decide) ?_
                refine lv_icmp_eq (tgt := 91) hx hb dX11_draw_81 (by decide) (fun c_81 => ?_) (fun c_81 => ?_)
                · skip
                  have hob := c_up_y hob (by omega) (q_dr_b hV hia c_59 hn10) d_74 (Or.inl c_81)
                  refine lv_iload hx hb dX11_draw_91 (lv_at hl 7 rfl) ?_
                  refine lv_istore (lv' := [(4, .int (nI i)), (7, .int (q_dr r n ia i)), (0, .ref (E.1 0)), (1, .int (nI ia)), (2, .int what), (3, .int (q_fin r n ia)), (5, .int b), (6, .int (nI i))]) hx hb dX11_draw_93 hl (by decide) rfl (fun ls hl => ?_)
                  refine lv_iload hx hb dX11_draw_95 (lv_at hl 1 rfl) ?_
                  refine lv_istore (lv' := [(5, .int (q_dr r n ia i)), (4, .int (nI i)), (7, .int (q_dr r n ia i)), (0, .ref (E.1 0)), (1, .int (nI ia)), (2, .int what), (3, .int (q_fin r n ia)), (6, .int (nI i))]) hx hb dX11_draw_97 hl (by decide) rfl (fun ls hl => ?_)
                  refine lv_iinc (v := (nI (i + 1))) (lv' := [(6, .int (nI (i + 1))), (5, .int (q_dr r n ia i)), (4, .int (nI i)), (7, .int (q_dr r n ia i)), (0, .ref (E.1 0)), (1, .int (nI ia)), (2, .int what), (3, .int (q_fin r n ia))]) hx hb dX11_draw_99 hl (k := 7) rfl (z_inc (by decide)) (by decide) rfl (fun ls hl => ?_)
                  refine lv_goto (tgt := 50) hx hb dX11_draw_102 (by decide) ?_
                  exact ih_50 (i + 1) (q_dr r n ia i) (nI i) G4 _ _ _ (by first | assumption | omega) (by exact fun k hk => (hF4 k (by omega)).trans (hFc k (by omega))) (by exact hob) hP hS (lv_sub hl [4, 5, 6, 7, 2, 1, 0] rfl) (by omega)
                · skip
                  refine lv_iload hx hb dX11_draw_84 (lv_at hl 0 rfl) ?_
                  refine lv_iload hx hb dX11_draw_86 (lv_at hl 6 rfl) ?_
                  refine lv_icmp_ge (tgt := 99) hx hb dX11_draw_88 (by decide) (fun c_88 => ?_) (fun c_88 => ?_)
                  · skip
                    have d_88 := Int32.not_lt.mpr c_88
                    have hob := c_up_n hob (Or.inr (fun q => q.elim c_81 d_88))
                    refine lv_iinc (v := (nI (i + 1))) (lv' := [(6, .int (nI (i + 1))), (7, .int (q_dr r n ia i)), (0, .ref (E.1 0)), (1, .int (nI ia)), (2, .int what), (3, .int (q_fin r n ia)), (4, .int z), (5, .int b)]) hx hb dX11_draw_99 hl (k := 7) rfl (z_inc (by decide)) (by decide) rfl (fun ls hl => ?_)
                    refine lv_goto (tgt := 50) hx hb dX11_draw_102 (by decide) ?_
                    exact ih_50 (i + 1) b z G4 _ _ _ (by first | assumption | omega) (by exact fun k hk => (hF4 k (by omega)).trans (hFc k (by omega))) (by exact hob) hP hS (lv_sub hl [2, 3, 4, 5, 6, 7, 0] rfl) (by omega)
                  · skip
                    have d_88 := Int32.not_le.mp c_88
                    have hob := c_up_y hob (by omega) (q_dr_b hV hia c_59 hn10) d_74 (Or.inr d_88)
                    refine lv_iload hx hb dX11_draw_91 (lv_at hl 7 rfl) ?_
                    refine lv_istore (lv' := [(4, .int (nI i)), (7, .int (q_dr r n ia i)), (0, .ref (E.1 0)), (1, .int (nI ia)), (2, .int what), (3, .int (q_fin r n ia)), (5, .int b), (6, .int (nI i))]) hx hb dX11_draw_93 hl (by decide) rfl (fun ls hl => ?_)
                    refine lv_iload hx hb dX11_draw_95 (lv_at hl 1 rfl) ?_
                    refine lv_istore (lv' := [(5, .int (q_dr r n ia i)), (4, .int (nI i)), (7, .int (q_dr r n ia i)), (0, .ref (E.1 0)), (1, .int (nI ia)), (2, .int what), (3, .int (q_fin r n ia)), (6, .int (nI i))]) hx hb dX11_draw_97 hl (by decide) rfl (fun ls hl => ?_)
                    refine lv_iinc (v := (nI (i + 1))) (lv' := [(6, .int (nI (i + 1))), (5, .int (q_dr r n ia i)), (4, .int (nI i)), (7, .int (q_dr r n ia i)), (0, .ref (E.1 0)), (1, .int (nI ia)), (2, .int what), (3, .int (q_fin r n ia))]) hx hb dX11_draw_99 hl (k := 7) rfl (z_inc (by decide)) (by decide) rfl (fun ls hl => ?_)
                    refine lv_goto (tgt := 50) hx hb dX11_draw_102 (by decide) ?_
                    exact ih_50 (i + 1) (q_dr r n ia i) (nI i) G4 _ _ _ (by first | assumption | omega) (by exact fun k hk => (hF4 k (by omega)).trans (hFc k (by omega))) (by exact hob) hP hS (lv_sub hl [4, 5, 6, 7, 2, 1, 0] rfl) (by omega)
        exact cut_50 (_ + 1) 0 (-9 : Int32) (-9 : Int32) G3 _ _ _ (by first | assumption | omega) (by exact fun k hk => hF3 k (by omega)) (by exact c_up_0) hP hS (lv_sub hl [4, 5, 6, 3, 2, 1, 0] rfl) (Nat.lt_succ_self _)
      · skip
        have d_23 := Int32.not_le.mp c_23
        refine lv_aload_n hx hb dX11_draw_26 rfl (lv_at hl 0 rfl) ?_
        refine lv_bipush (v := (-2 : Int32)) hx hb dX11_draw_27 (by decide) ?_
        refine z_Vi C0 hP hD hA hS (As := [.int (-2 : Int32)]) (rest := []) (k := 0) (c_X11_refuse l E _ (-2 : Int32) 2 (by decide) (by decide) (by decide)) (cwV 1 hts (zgV zbw mlRX11_72 imX11_refuse seX11_refuse iniRX11 coX11_refuse) rfl rfl rfl (by decide +kernel) ⟨Nat.le_of_ble_eq_true rfl, Nat.le_of_ble_eq_true rfl⟩) (zk_lt (rfl : zk 0 = 9) (by decide)) (zd_9 E (rfl : zk 0 = 9) _) rfl rfl rfl hl.1 rfl (Nat.le_of_ble_eq_true rfl) dX11_draw_29 ⟨Nat.zero_le _, Nat.zero_le _⟩ (fun r5 G5 H locs hw5 hP hS => ?_)
        obtain ⟨rfl, rfl⟩ := hw5
        subst hQ_
        exact z_iret C0 hP hS (v := (-2 : Int32)) (by exact zQc_of (k := 2) (by simp [A_draw, hz_ia, hy_ia, c_18, d_23]) (fun k hk => g1_n (by omega)) (g1_s _ _ _) (z_plk (g1_n (by decide)) hp)) dX11_draw_32
  · skip
    have hz_ia := zin_f (by omega) hno1
    refine lv_if_ne (tgt := 17) hx hb dX11_draw_8 (by decide) (fun h_ => absurd (by decide) h_) (fun _ => ?_)
    refine lv_aload_n hx hb dX11_draw_11 rfl (lv_at hl 0 rfl) ?_
    refine lv_iconst (v := (-1 : Int32)) hx hb dX11_draw_12 (by decide) ?_
    refine z_Vi C0 hP hD hA hS (As := [.int (-1 : Int32)]) (rest := []) (k := 0) (c_X11_refuse l E _ (-1 : Int32) 1 (by decide) (by decide) (by decide)) (cwV 1 hts (zgV zbw mlRX11_72 imX11_refuse seX11_refuse iniRX11 coX11_refuse) rfl rfl rfl (by decide +kernel) ⟨Nat.le_of_ble_eq_true rfl, Nat.le_of_ble_eq_true rfl⟩) (zk_lt (rfl : zk 0 = 9) (by decide)) (zd_9 E (rfl : zk 0 = 9) _) rfl rfl rfl hl.1 rfl (Nat.le_of_ble_eq_true rfl) dX11_draw_13 ⟨Nat.zero_le _, Nat.zero_le _⟩ (fun r6 G6 H locs hw6 hP hS => ?_)
    obtain ⟨rfl, rfl⟩ := hw6
    subst hQ_
    exact z_iret C0 hP hS (v := (-1 : Int32)) (by exact zQc_of (k := 1) (by simp [A_draw, hz_ia]) (fun k hk => g1_n (by omega)) (g1_s _ _ _) (z_plk (g1_n (by decide)) hp)) dX11_draw_16
set_option maxHeartbeats 4000000 in
set_option maxRecDepth 100000 in
theorem c_X12_draw (l : Launch) (E : zE) (G : zG) (r : Nat → Int32) (n na : Nat) (athlete what : Int32) (hM : G 93 = r) (hrn : r 0 = nI n) (hrna : r 1 = nI na) (hn10 : n ≤ 10) (hna : na ≤ 5) (hkd : zKd r n) (hV : zVr r n na) : zMi l yX12_draw wsX12_draw ({ frames := 6, cells := 0, slots := 0, locals := 142 } : Room) E G [.ref (E.1 92), .int athlete, .int what] (fun r1 G1 => zQm (A_draw r n na athlete what) G r1 G1) := by
  refine zOf (cc := cX12_draw) (nL := 8) (ret := (some .int)) RX12 (by decide) rfl rfl (Nat.le_of_ble_eq_true rfl) ?_
  intro p_ e_ s_ m_ a_ b_ me_ c_ ls C0 hP hS hl
  have hx := C0.1
  have hb := C0.2.1
  have hts := C0.2.2.2.2.1
  have hD : zD E (zA E s_.heap.size) := C0.2.2.2.2.2.2.2.2
  have hA : ∀ q : Nat, s_.heap.size ≤ q → zA E s_.heap.size q := fun q h => Or.inr h
  refine z_gen (fun Q_ hQ_ => ?_)
  have hl : lv_has ls 8 [(0, .ref (E.1 92)), (1, .int athlete), (2, .int what)] := hl
  refine lv_aload_n hx hb dX12_draw_0 rfl (lv_at hl 0 rfl) ?_
  refine lv_iload_n hx hb dX12_draw_1 rfl (lv_at hl 1 rfl) ?_
  refine z_Vi C0 hP hD hA hS (As := [.int athlete]) (rest := []) (k := 92) (c_X12_isAthlete l E _ na athlete ((congrFun (hM) _).trans (hrna)) (by omega)) (cwV 1 hts (zgV zbw mlRX12_136 imX12_isAthlete seX12_isAthlete iniRX12 coX12_isAthlete) rfl rfl rfl (by decide +kernel) ⟨Nat.le_of_ble_eq_true rfl, Nat.le_of_ble_eq_true rfl⟩) (zk_lt (rfl : zk 92 = 10) (by decide)) (zd_10 E (rfl : zk 92 = 10) _) rfl rfl rfl hl.1 rfl (Nat.le_of_ble_eq_true rfl) dX12_draw_2 ⟨Nat.zero_le _, Nat.zero_le _⟩ (fun r1 G1 H locs hw1 hP hS => ?_)
  rcases hw1 with ⟨rfl, rfl, ia, hia, rfl⟩ | ⟨rfl, rfl, hno1⟩
  · skip
    have hz_ia := zin_t hia (by omega)
    have hy_ia : zix (nI ia) = ia := zix_n (by omega)
    refine lv_if_ne (tgt := 14) hx hb dX12_draw_5 (by decide) (fun _ => ?_) (fun h_ => absurd h_ (by decide))
    refine lv_iload_n hx hb dX12_draw_14 rfl (lv_at hl 2 rfl) ?_
    refine lv_iconst (v := (0 : Int32)) hx hb dX12_draw_15 (by decide) ?_
    refine lv_iconst (v := (1 : Int32)) hx hb dX12_draw_16 (by decide) ?_
    refine z_Si C0 hP hD hA hS (As := [.int what, .int (0 : Int32), .int (1 : Int32)]) (rest := []) (c_X12_isIn l E _ what (0 : Int32) (1 : Int32)) (va_cwS 3 hts (zgS zbw mlRX12_62 stX12_isIn iniRX12 coX12_isIn) rfl rfl rfl (by decide +kernel) ⟨Nat.le_of_ble_eq_true rfl, Nat.le_of_ble_eq_true rfl⟩) rfl hl.1 rfl (Nat.le_of_ble_eq_true rfl) dX12_draw_17 ⟨Nat.zero_le _, Nat.zero_le _⟩ (fun r2 G2 H locs hw2 hP hS => ?_)
    rcases hw2 with ⟨rfl, rfl, hi1_2, hi2_2⟩ | ⟨rfl, rfl, hi0_2⟩
    · skip
      have hi3_2 := Int32.not_lt.mpr hi1_2
      have hi4_2 := Int32.not_lt.mpr hi2_2
      refine lv_if_ne (tgt := 30) hx hb dX12_draw_20 (by decide) (fun _ => ?_) (fun h_ => absurd h_ (by decide))
      refine lv_aload_n hx hb dX12_draw_30 rfl (lv_at hl 0 rfl) ?_
      refine lv_aload_n hx hb dX12_draw_31 rfl (lv_at hl 0 rfl) ?_
      refine z_get C0 hP (C := RX12) (T := TX12) (N := 21) (ci := 10) (index := 9) (k := 92) (ref := "WetSuitPedalsShoesModel") (zk_lt (rfl : zk 92 = 10) (by decide)) (zd_10 E (rfl : zk 92 = 10) _) rfl (zmi inU_12) 0 (by decide) (zm flRX12_9) rfl (v := .ref (E.1 93)) (rfl) dX12_draw_32 ?_
      refine lv_iload_n hx hb dX12_draw_35 rfl (lv_at hl 1 rfl) ?_
      refine z_Vi C0 hP hD hA hS (As := [.ref (E.1 93), .int (nI ia)]) (rest := []) (k := 92) (c_X12_finishOf l E _ 93 ia n z_lit_Arr102_93 (by omega) ((congrFun (hM) _).trans (hrn)) (by omega) (by omega)) (cwV 2 hts (zgV zbw mlRX12_156 imX12_finishOf seX12_finishOf iniRX12 coX12_finishOf) rfl rfl rfl (by decide +kernel) ⟨Nat.le_of_ble_eq_true rfl, Nat.le_of_ble_eq_true rfl⟩) (zk_lt (rfl : zk 92 = 10) (by decide)) (zd_10 E (rfl : zk 92 = 10) _) rfl rfl rfl hl.1 rfl (Nat.le_of_ble_eq_true rfl) dX12_draw_36 ⟨Nat.zero_le _, Nat.zero_le _⟩ (fun r3 G3 H locs hw3 hP hS => ?_)
      obtain ⟨hr3, hF3, hrow3⟩ := hw3
      rw [show G 93 = r from hM] at hr3 hrow3
      subst hr3
      refine lv_istore_n (lv' := [(3, .int (q_fin r n ia)), (0, .ref (E.1 92)), (1, .int (nI ia)), (2, .int what)]) hx hb dX12_draw_39 rfl hl (by decide) rfl (fun ls hl => ?_)
      refine lv_bipush (v := (-9 : Int32)) hx hb dX12_draw_40 (by decide) ?_
      refine lv_istore (lv' := [(4, .int (-9 : Int32)), (3, .int (q_fin r n ia)), (0, .ref (E.1 92)), (1, .int (nI ia)), (2, .int what)]) hx hb dX12_draw_42 hl (by decide) rfl (fun ls hl => ?_)
      refine lv_ldc (v := (1000000000 : Int32)) hx hb C0.2.2.2.1 (hts _ (zm kkRX12_55)) dX12_draw_44 ?_
      refine lv_istore (lv' := [(5, .int (1000000000 : Int32)), (4, .int (-9 : Int32)), (3, .int (q_fin r n ia)), (0, .ref (E.1 92)), (1, .int (nI ia)), (2, .int what)]) hx hb dX12_draw_46 hl (by decide) rfl (fun ls hl => ?_)
      refine lv_iconst (v := (0 : Int32)) hx hb dX12_draw_48 (by decide) ?_
      refine lv_istore (lv' := [(6, .int (0 : Int32)), (5, .int (1000000000 : Int32)), (4, .int (-9 : Int32)), (3, .int (q_fin r n ia)), (0, .ref (E.1 92)), (1, .int (nI ia)), (2, .int what)]) hx hb dX12_draw_49 hl (by decide) rfl (fun ls hl => ?_)
      have cut_51 : ∀ (fuel : Nat), ∀ (i : Nat) (b z : Int32) (Gc : zG) (H : Heap) (locs : List Loc) (ls : Array Slot), (i ≤ na) → (∀ k, (k < 100 ∨ 102 < k) → Gc k = G k) → ((b, z) = b_up (q_dr r n ia) i) → zP E Gc H → va_S (zA E s_.heap.size) s_.heap H locs → lv_has ls 8 [(0, .ref (E.1 92)), (1, .int (nI ia)), (2, .int what), (3, .int (q_fin r n ia)), (4, .int z), (5, .int b), (6, .int (nI i))] → na - i < fuel → W p_ l e_ ({ frames := 6, cells := 0, slots := 0, locals := 142 } : Room) s_ m_ a_ b_ me_ c_ H locs 0 0 Q_ (F0 m_ 51 ls []) := by
        intro fuel
        induction fuel with
        | zero =>
          intro i  b z  Gc  H locs ls hin hFc hob hP hS hl hfu
          exact absurd hfu (Nat.not_lt_zero _)
        | succ fuel ih_51 =>
          intro i  b z  Gc  H locs ls hin hFc hob hP hS hl hfu_51
          refine lv_iload hx hb dX12_draw_51 (lv_at hl 6 rfl) ?_
          refine lv_aload_n hx hb dX12_draw_53 rfl (lv_at hl 0 rfl) ?_
          refine z_get C0 hP (C := RX12) (T := TX12) (N := 21) (ci := 10) (index := 9) (k := 92) (ref := "WetSuitPedalsShoesModel") (zk_lt (rfl : zk 92 = 10) (by decide)) (zd_10 E (rfl : zk 92 = 10) _) rfl (zmi inU_12) 0 (by decide) (zm flRX12_9) rfl (v := .ref (E.1 93)) (rfl) dX12_draw_54 ?_
          refine lv_iconst (v := (1 : Int32)) hx hb dX12_draw_57 (by decide) ?_
          refine z_iald C0 hP (k := 93) (i := 1) (v := (nI na)) (rfl : zk 93 = 11) (Nat.lt_of_lt_of_eq (show 1 < 102 by decide) (rfl : zl 93 = 102).symm) rfl dX12_draw_58 ((congrFun ((hFc _ (by decide)).trans (hM)) _).trans (hrna)) ?_
          refine z_N_ge hx hb (a := i) (b := na) (tgt := 105) dX12_draw_59 rfl rfl (by omega) (by omega) (by decide) (fun c_59 => ?_) (fun c_59 => ?_)
          · skip
            obtain ⟨e1, e2⟩ := b_up_end hob (show i = na by omega)
            refine lv_iload hx hb dX12_draw_105 (lv_at hl 4 rfl) ?_
            refine lv_if_lt (tgt := 114) hx hb dX12_draw_107 (by decide) (fun c_107 => ?_) (fun c_107 => ?_)
            · skip
              refine lv_iload hx hb dX12_draw_114 (lv_at hl 4 rfl) ?_
              refine lv_goto (tgt := 121) hx hb dX12_draw_116 (by decide) ?_
              subst hQ_
              exact z_iret C0 hP hS (v := z) (by exact zQm_of (k := 0) (by simp [A_draw, hz_ia, hy_ia, hi3_2, hi4_2, c_59, e1, e2, c_107]) (fun k hk => hFc k (by omega)) (hFc _ (by decide))) dX12_draw_121
            · skip
              refine lv_iload_n hx hb dX12_draw_110 rfl (lv_at hl 2 rfl) ?_
              refine lv_if_ne (tgt := 119) hx hb dX12_draw_111 (by decide) (fun c_111 => ?_) (fun c_111 => ?_)
              · skip
                refine lv_iload hx hb dX12_draw_119 (lv_at hl 5 rfl) ?_
                subst hQ_
                exact z_iret C0 hP hS (v := b) (by exact zQm_of (k := 0) (by simp [A_draw, hz_ia, hy_ia, hi3_2, hi4_2, c_59, e1, e2, c_107, c_111]) (fun k hk => hFc k (by omega)) (hFc _ (by decide))) dX12_draw_121
              · skip
                refine lv_iload hx hb dX12_draw_114 (lv_at hl 4 rfl) ?_
                refine lv_goto (tgt := 121) hx hb dX12_draw_116 (by decide) ?_
                subst hQ_
                exact z_iret C0 hP hS (v := z) (by exact zQm_of (k := 0) (by simp [A_draw, hz_ia, hy_ia, hi3_2, hi4_2, c_59, e1, e2, c_107, c_111]) (fun k hk => hFc k (by omega)) (hFc _ (by decide))) dX12_draw_121
          · skip
            refine lv_iload_n hx hb dX12_draw_62 rfl (lv_at hl 3 rfl) ?_
            refine lv_aload_n hx hb dX12_draw_63 rfl (lv_at hl 0 rfl) ?_
            refine lv_aload_n hx hb dX12_draw_64 rfl (lv_at hl 0 rfl) ?_
            refine z_get C0 hP (C := RX12) (T := TX12) (N := 21) (ci := 10) (index := 9) (k := 92) (ref := "WetSuitPedalsShoesModel") (zk_lt (rfl : zk 92 = 10) (by decide)) (zd_10 E (rfl : zk 92 = 10) _) rfl (zmi inU_12) 0 (by decide) (zm flRX12_9) rfl (v := .ref (E.1 93)) (rfl) dX12_draw_65 ?_
            refine lv_iload hx hb dX12_draw_68 (lv_at hl 6 rfl) ?_
            refine z_Vi C0 hP hD hA hS (As := [.ref (E.1 93), .int (nI i)]) (rest := [.int (q_fin r n ia)]) (k := 92) (c_X12_finishOf l E _ 93 i n z_lit_Arr102_93 (by omega) ((congrFun ((hFc _ (by decide)).trans (hM)) _).trans (hrn)) (by omega) (by omega)) (cwV 2 hts (zgV zbw mlRX12_156 imX12_finishOf seX12_finishOf iniRX12 coX12_finishOf) rfl rfl rfl (by decide +kernel) ⟨Nat.le_of_ble_eq_true rfl, Nat.le_of_ble_eq_true rfl⟩) (zk_lt (rfl : zk 92 = 10) (by decide)) (zd_10 E (rfl : zk 92 = 10) _) rfl rfl rfl hl.1 rfl (Nat.le_of_ble_eq_true rfl) dX12_draw_70 ⟨Nat.zero_le _, Nat.zero_le _⟩ (fun r4 G4 H locs hw4 hP hS => ?_)
            obtain ⟨hr4, hF4, hrow4⟩ := hw4
            rw [show Gc 93 = r from (hFc _ (by decide)).trans (hM)] at hr4 hrow4
            subst hr4
            refine lv_isub hx hb dX12_draw_73 ?_
            refine z_eqi (y := (q_dr r n ia i)) (rfl) ?_
            refine lv_istore (lv' := [(7, .int (q_dr r n ia i)), (0, .ref (E.1 92)), (1, .int (nI ia)), (2, .int what), (3, .int (q_fin r n ia)), (4, .int z), (5, .int b), (6, .int (nI i))]) hx hb dX12_draw_74 hl (by decide) rfl (fun ls hl => ?_)
            refine lv_iload hx hb dX12_draw_76 (lv_at hl 0 rfl) ?_
            refine lv_if_le (tgt := 99) hx hb dX12_draw_78 (by decide) (fun c_78 => ?_) (fun c_78 => ?_)
            · skip
              have d_78 := Int32.not_lt.mpr c_78
              have hob := b_up_n hob (fun q => d_78 q.1)
              refine lv_iinc (v := (nI (i + 1))) (lv' := [(6, .int (nI (i + 1))), (7, .int (q_dr r n ia i)), (0, .ref (E.1 92)), (1, .int (nI ia)), (2, .int what), (3, .int (q_fin r n ia)), (4, .int z), (5, .int b)]) hx hb dX12_draw_99 hl (k := 7) rfl (z_inc (by decide)) (by decide) rfl (fun ls hl => ?_)
              refine lv_goto (tgt := 51) hx hb dX12_draw_102 (by decide) ?_
              exact ih_51 (i + 1) b z G4 _ _ _ (by first | assumption | omega) (by exact fun k hk => (hF4 k (by omega)).trans (hFc k (by omega))) (by exact hob) hP hS (lv_sub hl [2, 3, 4, 5, 6, 7, 0] rfl) (by omega)
            · skip
              have d_78 := Int32.not_le.mp c_78
              refine lv_iload hx hb dX12_draw_81 (lv_at hl 0 rfl) ?_
              refine lv_iload hx hb dX12_draw_83 (lv_at hl 6 rfl) ?_
              refine lv_icmp_lt (tgt := 91) hx hb dX12_draw_85 (by decide) (fun c_85 => ?_) (fun c_85 => ?_)
              · skip
                have hob := b_up_y hob d_78 c_85
                refine lv_iload hx hb dX12_draw_91 (lv_at hl 7 rfl) ?_
                refine lv_istore (lv' := [(4, .int (nI i)), (7, .int (q_dr r n ia i)), (0, .ref (E.1 92)), (1, .int (nI ia)), (2, .int what), (3, .int (q_fin r n ia)), (5, .int b), (6, .int (nI i))]) hx hb dX12_draw_93 hl (by decide) rfl (fun ls hl => ?_)
                refine lv_iload hx hb dX12_draw_95 (lv_at hl 1 rfl) ?_
                refine lv_istore (lv' := [(5, .int (q_dr r n ia i)), (4, .int (nI i)), (7, .int (q_dr r n ia i)), (0, .ref (E.1 92)), (1, .int (nI ia)), (2, .int what), (3, .int (q_fin r n ia)), (6, .int (nI i))]) hx hb dX12_draw_97 hl (by decide) rfl (fun ls hl => ?_)
                refine lv_iinc (v := (nI (i + 1))) (lv' := [(6, .int (nI (i + 1))), (5, .int (q_dr r n ia i)), (4, .int (nI i)), (7, .int (q_dr r n ia i)), (0, .ref (E.1 92)), (1, .int (nI ia)), (2, .int what), (3, .int (q_fin r n ia))]) hx hb dX12_draw_99 hl (k := 7) rfl (z_inc (by decide)) (by decide) rfl (fun ls hl => ?_)
                refine lv_goto (tgt := 51) hx hb dX12_draw_102 (by decide) ?_
                exact ih_51 (i + 1) (q_dr r n ia i) (nI i) G4 _ _ _ (by first | assumption | omega) (by exact fun k hk => (hF4 k (by omega)).trans (hFc k (by omega))) (by exact hob) hP hS (lv_sub hl [4, 5, 6, 7, 2, 1, 0] rfl) (by omega)
              · skip
                have hob := b_up_n hob (fun q => c_85 q.2)
                refine lv_goto (tgt := 99) hx hb dX12_draw_88 (by decide) ?_
                refine lv_iinc (v := (nI (i + 1))) (lv' := [(6, .int (nI (i + 1))), (7, .int (q_dr r n ia i)), (0, .ref (E.1 92)), (1, .int (nI ia)), (2, .int what), (3, .int (q_fin r n ia)), (4, .int z), (5, .int b)]) hx hb dX12_draw_99 hl (k := 7) rfl (z_inc (by decide)) (by decide) rfl (fun ls hl => ?_)
                refine lv_goto (tgt := 51) hx hb dX12_draw_102 (by decide) ?_
                exact ih_51 (i + 1) b z G4 _ _ _ (by first | assumption | omega) (by exact fun k hk => (hF4 k (by omega)).trans (hFc k (by omega))) (by exact hob) hP hS (lv_sub hl [2, 3, 4, 5, 6, 7, 0] rfl) (by omega)
      exact cut_51 (_ + 1) 0 (1000000000 : Int32) (-9 : Int32) G3 _ _ _ (by first | assumption | omega) (by exact fun k hk => hF3 k (by omega)) (by rfl) hP hS (lv_sub hl [4, 5, 6, 3, 2, 1, 0] rfl) (Nat.lt_succ_self _)
    · skip
      have hi5_2 := z_nin hi0_2
      refine lv_if_ne (tgt := 30) hx hb dX12_draw_20 (by decide) (fun h_ => absurd (by decide) h_) (fun _ => ?_)
      refine lv_aload_n hx hb dX12_draw_23 rfl (lv_at hl 0 rfl) ?_
      refine lv_bipush (v := (-2 : Int32)) hx hb dX12_draw_24 (by decide) ?_
      refine z_Vi C0 hP hD hA hS (As := [.int (-2 : Int32)]) (rest := []) (k := 92) (c_X12_no l E _ (-2 : Int32) 2 (by decide) (by decide)) (cwV 1 hts (zgV zbw mlRX12_56 imX12_no seX12_no iniRX12 coX12_no) rfl rfl rfl (by decide +kernel) ⟨Nat.le_of_ble_eq_true rfl, Nat.le_of_ble_eq_true rfl⟩) (zk_lt (rfl : zk 92 = 10) (by decide)) (zd_10 E (rfl : zk 92 = 10) _) rfl rfl rfl hl.1 rfl (Nat.le_of_ble_eq_true rfl) dX12_draw_26 ⟨Nat.zero_le _, Nat.zero_le _⟩ (fun r5 G5 H locs hw5 hP hS => ?_)
      obtain ⟨rfl, rfl⟩ := hw5
      subst hQ_
      exact z_iret C0 hP hS (v := (-2 : Int32)) (by exact zQm_of (k := 2) (by simp [A_draw, hz_ia, hy_ia, hi5_2]) (fun k hk => g1_n (by omega)) (g1_s _ _ _)) dX12_draw_29
  · skip
    have hz_ia := zin_f (by omega) hno1
    refine lv_if_ne (tgt := 14) hx hb dX12_draw_5 (by decide) (fun h_ => absurd (by decide) h_) (fun _ => ?_)
    refine lv_aload_n hx hb dX12_draw_8 rfl (lv_at hl 0 rfl) ?_
    refine lv_iconst (v := (-1 : Int32)) hx hb dX12_draw_9 (by decide) ?_
    refine z_Vi C0 hP hD hA hS (As := [.int (-1 : Int32)]) (rest := []) (k := 92) (c_X12_no l E _ (-1 : Int32) 1 (by decide) (by decide)) (cwV 1 hts (zgV zbw mlRX12_56 imX12_no seX12_no iniRX12 coX12_no) rfl rfl rfl (by decide +kernel) ⟨Nat.le_of_ble_eq_true rfl, Nat.le_of_ble_eq_true rfl⟩) (zk_lt (rfl : zk 92 = 10) (by decide)) (zd_10 E (rfl : zk 92 = 10) _) rfl rfl rfl hl.1 rfl (Nat.le_of_ble_eq_true rfl) dX12_draw_10 ⟨Nat.zero_le _, Nat.zero_le _⟩ (fun r6 G6 H locs hw6 hP hS => ?_)
    obtain ⟨rfl, rfl⟩ := hw6
    subst hQ_
    exact z_iret C0 hP hS (v := (-1 : Int32)) (by exact zQm_of (k := 1) (by simp [A_draw, hz_ia]) (fun k hk => g1_n (by omega)) (g1_s _ _ _)) dX12_draw_13
