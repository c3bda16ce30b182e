/-! laid by wip/whole/vcg.py -/
theorem mlRX3_41 : Cond.methodLink RX3 41 yX1_become ∈ zU := zU_m 780 (by decide +kernel) rfl
theorem mlRX3_45 : Cond.methodLink RX3 45 yX0_become ∈ zU := zU_m 781 (by decide +kernel) rfl
set_option maxHeartbeats 4000000 in
set_option maxRecDepth 100000 in
theorem c_X3_become (l : Launch) (E : zE) (G : zG) (f o : Nat) (r : Nat → Int32) (n na : Nat) (hf : zIs f tFie) (ho : zIs o tFie) (hd : f + 20 < o ∨ o + 20 < f) (hO : zFA G o r n na) (hn10 : n ≤ 10) (hna : na ≤ 5) : zMv l yX3_become wsX3_become ({ frames := 2, cells := 0, slots := 0, locals := 47 } : Room) E G [.ref (E.1 f), .ref (E.1 o)] (fun G1 => (∀ k, (k < f ∨ f + 20 < k) → G1 k = G k) ∧ zFA G1 f r n na) := by
  refine zOf (cc := cX3_become) (nL := 3) (ret := none) RX3 (by decide) rfl rfl (Nat.le_of_ble_eq_true rfl) ?_
  intro p_ e_ s_ m_ a_ b_ me_ c_ ls C0 hP hS hl
  have hx := C0.1
  have hb := C0.2.1
  have hts := C0.2.2.2.2.1
  have hD : zD E (zA E s_.heap.size) := C0.2.2.2.2.2.2.2.2
  have hA : ∀ q : Nat, s_.heap.size ≤ q → zA E s_.heap.size q := fun q h => Or.inr h
  refine z_gen (fun Q_ hQ_ => ?_)
  have hl : lv_has ls 3 [(0, .ref (E.1 f)), (1, .ref (E.1 o))] := hl
  refine lv_aload_n hx hb dX3_become_0 rfl (lv_at hl 0 rfl) ?_
  refine z_get C0 hP (C := RX3) (T := TX3) (N := 3) (ci := 3) (index := 12) (k := f) (ref := "WetSuitPedalsShoes$Field") (zk_lt (hf (0, 3, 3) (by decide)).1 (by decide)) (zd_3 E (hf (0, 3, 3) (by decide)).1 _) rfl (zmi inU_3) 0 (by decide) (zm flRX3_12) rfl (v := .ref (E.1 (f + 1))) (rfl) dX3_become_1 ?_
  refine lv_aload_n hx hb dX3_become_4 rfl (lv_at hl 1 rfl) ?_
  refine z_get C0 hP (C := RX3) (T := TX3) (N := 3) (ci := 3) (index := 12) (k := o) (ref := "WetSuitPedalsShoes$Field") (zk_lt (ho (0, 3, 3) (by decide)).1 (by decide)) (zd_3 E (ho (0, 3, 3) (by decide)).1 _) rfl (zmi inU_3) 0 (by decide) (zm flRX3_12) rfl (v := .ref (E.1 (o + 1))) (rfl) dX3_become_5 ?_
  refine z_Vv C0 hP hD hA hS (As := [.ref (E.1 (o + 1))]) (rest := []) (k := (f + 1)) (c_X1_become l E _ (f + 1) (o + 1) (zIs_sub hf 1 (by decide)) (zIs_sub ho 1 (by decide)) (by omega)) (cwV 1 hts (zgV zbw mlRX3_41 imX1_become seX1_become iniRX1 coX1_become) rfl rfl rfl (by decide +kernel) ⟨Nat.le_of_ble_eq_true rfl, Nat.le_of_ble_eq_true rfl⟩) (zk_lt (hf (1, 1, 4) (by decide)).1 (by decide)) (zd_1 E (hf (1, 1, 4) (by decide)).1 _) rfl rfl rfl hl.1 rfl (Nat.le_of_ble_eq_true rfl) dX3_become_8 ⟨Nat.zero_le _, Nat.zero_le _⟩ (fun G1 H locs hw1 hP hS => ?_)
  obtain ⟨hF1, hmn1, hkf1⟩ := hw1
  refine lv_aload_n hx hb dX3_become_11 rfl (lv_at hl 0 rfl) ?_
  refine lv_aload_n hx hb dX3_become_12 rfl (lv_at hl 1 rfl) ?_
  refine z_get C0 hP (C := RX3) (T := TX3) (N := 3) (ci := 3) (index := 24) (k := o) (ref := "WetSuitPedalsShoes$Field") (zk_lt (ho (0, 3, 3) (by decide)).1 (by decide)) (zd_3 E (ho (0, 3, 3) (by decide)).1 _) rfl (zmi inU_3) 2 (by decide) (zm flRX3_24) rfl (v := .int (nI na)) (congrArg (fun z => some (Value.int z)) ((congrFun (hF1 _ (by omega)) _).trans (hO.2.1))) dX3_become_13 ?_
  refine z_put C0 hP hD hS (C := RX3) (T := TX3) (N := 3) (ci := 3) (index := 24) (k := f) (ref := "WetSuitPedalsShoes$Field") (F := G f) (ty := .int) (hF1 _ (by omega)) tyX3 tyX3_ok nmX3 (zk_lt (hf (0, 3, 3) (by decide)).1 (by decide)) (zd_3 E (hf (0, 3, 3) (by decide)).1 _) rfl (zmi inU_3) 2 (by decide) (zm flRX3_24) rfl rfl (by decide +kernel) (by rfl) rfl (by show 2 < 3; decide) (upd (G f) 2 (nI na)) ((zd_3 E (hf (0, 3, 3) (by decide)).1 _).trans (rfl)) dX3_become_16 (fun H locs hP hS => ?_)
  refine lv_iconst (v := (0 : Int32)) hx hb dX3_become_19 (by decide) ?_
  refine lv_istore_n (lv' := [(2, .int (0 : Int32)), (0, .ref (E.1 f)), (1, .ref (E.1 o))]) hx hb dX3_become_20 rfl hl (by decide) rfl (fun ls hl => ?_)
  have cut_21 : ∀ (fuel : Nat), ∀ (i : Nat) (Gc : zG) (H : Heap) (locs : List Loc) (ls : Array Slot), (i ≤ na) → (∀ k, (k < f ∨ f + 20 < k) → Gc k = G k) → (Gc (f + 1) 0 = nI n) → (Gc f 2 = nI na) → (∀ j, j < 10 → Gc (f + 2) j = r (2 + 3 * j) ∧ Gc (f + 3) j = r (3 + 3 * j) ∧ Gc (f + 4) j = r (4 + 3 * j)) → (∀ a, a < i → (∀ w, w < 4 → Gc (f + 7 + 3 * a) w = r (32 + 4 * a + w)) ∧ ∀ j, j < 10 → Gc (f + 8 + 3 * a) j = r (52 + 10 * a + j)) → zP E Gc H → va_S (zA E s_.heap.size) s_.heap H locs → lv_has ls 3 [(0, .ref (E.1 f)), (1, .ref (E.1 o)), (2, .int (nI i))] → na - i < fuel → W p_ l e_ ({ frames := 2, cells := 0, slots := 0, locals := 47 } : Room) s_ m_ a_ b_ me_ c_ H locs 0 0 Q_ (F0 m_ 21 ls []) := by
    intro fuel
    induction fuel with
    | zero =>
      intro i  Gc  H locs ls hin hFc hm1 hm2 hco hat hP hS hl hfu
      exact absurd hfu (Nat.not_lt_zero _)
    | succ fuel ih_21 =>
      intro i  Gc  H locs ls hin hFc hm1 hm2 hco hat hP hS hl hfu_21
      refine lv_iload_n hx hb dX3_become_21 rfl (lv_at hl 2 rfl) ?_
      refine lv_aload_n hx hb dX3_become_22 rfl (lv_at hl 0 rfl) ?_
      refine z_get C0 hP (C := RX3) (T := TX3) (N := 3) (ci := 3) (index := 24) (k := f) (ref := "WetSuitPedalsShoes$Field") (zk_lt (hf (0, 3, 3) (by decide)).1 (by decide)) (zd_3 E (hf (0, 3, 3) (by decide)).1 _) rfl (zmi inU_3) 2 (by decide) (zm flRX3_24) rfl (v := .int (nI na)) (congrArg (fun z => some (Value.int z)) (hm2)) dX3_become_23 ?_
      refine z_N_ge hx hb (a := i) (b := na) (tgt := 50) dX3_become_26 rfl rfl (by omega) (by omega) (by decide) (fun c_26 => ?_) (fun c_26 => ?_)
      · skip
        subst hQ_
        exact z_vret C0 hP hS (by exact ⟨hFc, hm1, hm2, hco, fun a ha => hat a (by omega)⟩) dX3_become_50
      · skip
        refine lv_aload_n hx hb dX3_become_29 rfl (lv_at hl 0 rfl) ?_
        refine z_get C0 hP (C := RX3) (T := TX3) (N := 3) (ci := 3) (index := 20) (k := f) (ref := "WetSuitPedalsShoes$Field") (zk_lt (hf (0, 3, 3) (by decide)).1 (by decide)) (zd_3 E (hf (0, 3, 3) (by decide)).1 _) rfl (zmi inU_3) 1 (by decide) (zm flRX3_20) rfl (v := .ref (E.1 (f + 5))) (rfl) dX3_become_30 ?_
        refine lv_iload_n hx hb dX3_become_33 rfl (lv_at hl 2 rfl) ?_
        refine z_aald C0 hP (k := (f + 5)) (i := i) (hf (5, 12, 5) (by decide)).1 (by omega) rfl dX3_become_34 (fun ta hta => ?_)
        have kta : zIs ta tAth := hta ▸ zIs_ath hf (by omega)
        refine lv_aload_n hx hb dX3_become_35 rfl (lv_at hl 1 rfl) ?_
        refine z_get C0 hP (C := RX3) (T := TX3) (N := 3) (ci := 3) (index := 20) (k := o) (ref := "WetSuitPedalsShoes$Field") (zk_lt (ho (0, 3, 3) (by decide)).1 (by decide)) (zd_3 E (ho (0, 3, 3) (by decide)).1 _) rfl (zmi inU_3) 1 (by decide) (zm flRX3_20) rfl (v := .ref (E.1 (o + 5))) (rfl) dX3_become_36 ?_
        refine lv_iload_n hx hb dX3_become_39 rfl (lv_at hl 2 rfl) ?_
        refine z_aald C0 hP (k := (o + 5)) (i := i) (ho (5, 12, 5) (by decide)).1 (by omega) rfl dX3_become_40 (fun oa hoa => ?_)
        have koa : zIs oa tAth := hoa ▸ zIs_ath ho (by omega)
        refine z_Vv C0 hP hD hA hS (As := [.ref (E.1 oa)]) (rest := []) (k := ta) (c_X0_become l E _ ta oa kta koa (by omega)) (cwV 1 hts (zgV zbw mlRX3_45 imX0_become seX0_become iniRX0 coX0_become) rfl rfl rfl (by decide +kernel) ⟨Nat.le_of_ble_eq_true rfl, Nat.le_of_ble_eq_true rfl⟩) (zk_lt (kta (0, 0, 2) (by decide)).1 (by decide)) (zd_0 E (kta (0, 0, 2) (by decide)).1 _) rfl rfl rfl hl.1 rfl (Nat.le_of_ble_eq_true rfl) dX3_become_41 ⟨Nat.zero_le _, Nat.zero_le _⟩ (fun G2 H locs hw2 hP hS => ?_)
        obtain ⟨hF2, hab2, htr2⟩ := hw2
        refine lv_iinc (v := (nI (i + 1))) (lv' := [(2, .int (nI (i + 1))), (0, .ref (E.1 f)), (1, .ref (E.1 o))]) hx hb dX3_become_44 hl (k := 2) rfl (z_inc (by decide)) (by decide) rfl (fun ls hl => ?_)
        refine lv_goto (tgt := 21) hx hb dX3_become_47 (by decide) ?_
        exact ih_21 (i + 1) G2 _ _ _ (by first | assumption | omega) (by exact fun k hk => (hF2 k (by omega)).trans (hFc k (by omega))) (by exact (congrFun (hF2 _ (by omega)) 0).trans hm1) (by exact (congrFun (hF2 _ (by omega)) 2).trans hm2) (by exact fun j hj => ⟨(congrFun (hF2 _ (by omega)) j).trans (hco j hj).1, (congrFun (hF2 _ (by omega)) j).trans (hco j hj).2.1, (congrFun (hF2 _ (by omega)) j).trans (hco j hj).2.2⟩) (by intro a ha; rcases Nat.lt_or_ge a i with q | q; (exact ⟨fun w hw => (congrFun (hF2 (f + 7 + 3 * a) (by omega)) w).trans ((hat a q).1 w hw), fun j hj => (congrFun (hF2 (f + 8 + 3 * a) (by omega)) j).trans ((hat a q).2 j hj)⟩); (have e9 : a = i := (by omega); rw [e9, show f + 7 + 3 * i = ta + 1 by omega, show f + 8 + 3 * i = ta + 2 by omega]; exact ⟨fun w hw => (hab2 w hw).trans ((congrFun (hFc (oa + 1) (by omega)) w).trans (by rw [show oa + 1 = o + 7 + 3 * i by omega]; exact (hO.2.2.2 i (by omega)).1 w hw)), fun j hj => (htr2 j hj).trans ((congrFun (hFc (oa + 2) (by omega)) j).trans (by rw [show oa + 2 = o + 8 + 3 * i by omega]; exact (hO.2.2.2 i (by omega)).2 j hj))⟩)) hP hS (lv_sub hl [1, 2, 0] rfl) (by omega)
  exact cut_21 (_ + 1) 0 (g1 G1 f (upd (G f) 2 (nI na))) _ _ _ (by first | assumption | omega) (by exact fun k hk => (g1_n (by omega)).trans (hF1 k (by omega))) (by exact (congrFun (g1_n (by omega)) _).trans (hmn1.trans (hO.1))) (by exact (congrFun (g1_s _ _ _) _).trans (pk_us)) (by exact fun j hj => ⟨(congrFun (g1_n (by omega)) j).trans ((hkf1 j hj).1.trans (hO.2.2.1 j hj).1), (congrFun (g1_n (by omega)) j).trans ((hkf1 j hj).2.1.trans (hO.2.2.1 j hj).2.1), (congrFun (g1_n (by omega)) j).trans ((hkf1 j hj).2.2.trans (hO.2.2.1 j hj).2.2)⟩) (by exact fun a ha => absurd ha (Nat.not_lt_zero a)) hP hS (lv_sub hl [1, 2, 0] rfl) (Nat.lt_succ_self _)
theorem flRX11_16 : Cond.fieldLink RX11 16 "WetSuitPedalsShoes" "kept" "LWetSuitPedalsShoes$Field;" ∈ zU := zU_m 273 (by decide +kernel) rfl
theorem mlRX11_278 : Cond.methodLink RX11 278 yX3_become ∈ zU := zU_m 776 (by decide +kernel) rfl
theorem coX3_become : Cond.code yX3_become cX3_become 3 none ∈ zU := zU_m 779 (by decide +kernel) rfl
theorem imX3_become : Cond.instanceMethod yX3_become ∈ zU := zU_m 777 (by decide +kernel) rfl
theorem seX3_become : Cond.selects RX3 yX3_become yX3_become ∈ zU := zU_m 778 (by decide +kernel) rfl
theorem flRX11_19 : Cond.fieldLink RX11 19 "WetSuitPedalsShoes" "imageTaken" "Z" ∈ zU := zU_m 274 (by decide +kernel) rfl
set_option maxHeartbeats 4000000 in
set_option maxRecDepth 100000 in
theorem c_X11_image (l : Launch) (E : zE) (G : zG) (r : Nat → Int32) (n na : Nat) (hR : zFA G 1 r n na) (hn10 : n ≤ 10) (hna : na ≤ 5) : zMi l yX11_image wsX11_image ({ frames := 3, cells := 0, slots := 0, locals := 69 } : Room) E G [.ref (E.1 0)] (fun r1 G1 => nI n = r1 ∧ (∀ k, ((0 < k ∧ k < 22) ∨ 42 < k) → G1 k = G k) ∧ G1 0 2 = 1 ∧ zFA G1 22 r n na) := by
  refine zOf (cc := cX11_image) (nL := 1) (ret := (some .int)) RX11 (by decide) rfl rfl (Nat.le_of_ble_eq_true rfl) ?_
  intro p_ e_ s_ m_ a_ b_ me_ c_ ls C0 hP hS hl
  have hx := C0.1
  have hb := C0.2.1
  have hts := C0.2.2.2.2.1
  have hD : zD E (zA E s_.heap.size) := C0.2.2.2.2.2.2.2.2
  have hA : ∀ q : Nat, s_.heap.size ≤ q → zA E s_.heap.size q := fun q h => Or.inr h
  refine z_gen (fun Q_ hQ_ => ?_)
  have hl : lv_has ls 1 [(0, .ref (E.1 0))] := hl
  refine lv_aload_n hx hb dX11_image_0 rfl (lv_at hl 0 rfl) ?_
  refine z_get C0 hP (C := RX11) (T := TX11) (N := 11) (ci := 9) (index := 16) (k := 0) (ref := "WetSuitPedalsShoes") (zk_lt (rfl : zk 0 = 9) (by decide)) (zd_9 E (rfl : zk 0 = 9) _) rfl (zmi inU_11) 1 (by decide) (zm flRX11_16) rfl (v := .ref (E.1 22)) (rfl) dX11_image_1 ?_
  refine lv_aload_n hx hb dX11_image_4 rfl (lv_at hl 0 rfl) ?_
  refine z_get C0 hP (C := RX11) (T := TX11) (N := 11) (ci := 9) (index := 10) (k := 0) (ref := "WetSuitPedalsShoes") (zk_lt (rfl : zk 0 = 9) (by decide)) (zd_9 E (rfl : zk 0 = 9) _) rfl (zmi inU_11) 0 (by decide) (zm flRX11_10) rfl (v := .ref (E.1 1)) (rfl) dX11_image_5 ?_
  refine z_Vv C0 hP hD hA hS (As := [.ref (E.1 1)]) (rest := []) (k := 22) (c_X3_become l E _ 22 1 r n na z_lit_Fie_22 z_lit_Fie_1 (by decide) hR hn10 hna) (cwV 1 hts (zgV zbw mlRX11_278 imX3_become seX3_become iniRX3 coX3_become) rfl rfl rfl (by decide +kernel) ⟨Nat.le_of_ble_eq_true rfl, Nat.le_of_ble_eq_true rfl⟩) (zk_lt (rfl : zk 22 = 3) (by decide)) (zd_3 E (rfl : zk 22 = 3) _) rfl rfl rfl hl.1 rfl (Nat.le_of_ble_eq_true rfl) dX11_image_8 ⟨Nat.zero_le _, Nat.zero_le _⟩ (fun G1 H locs hw1 hP hS => ?_)
  obtain ⟨hF1, hz1⟩ := hw1
  refine lv_aload_n hx hb dX11_image_11 rfl (lv_at hl 0 rfl) ?_
  refine lv_iconst (v := (1 : Int32)) hx hb dX11_image_12 (by decide) ?_
  refine z_put C0 hP hD hS (C := RX11) (T := TX11) (N := 11) (ci := 9) (index := 19) (k := 0) (ref := "WetSuitPedalsShoes") (F := G 0) (ty := .boolean) (hF1 _ (by decide)) tyX11 tyX11_ok nmX11 (zk_lt (rfl : zk 0 = 9) (by decide)) (zd_9 E (rfl : zk 0 = 9) _) rfl (zmi inU_11) 2 (by decide) (zm flRX11_19) rfl rfl (by decide +kernel) (by rfl) rfl (by show 2 < 11; decide) (upd (G 0) 2 (1 : Int32)) ((zd_9 E (rfl : zk 0 = 9) _).trans (rfl)) dX11_image_13 (fun H locs hP hS => ?_)
  refine lv_aload_n hx hb dX11_image_16 rfl (lv_at hl 0 rfl) ?_
  refine z_get C0 hP (C := RX11) (T := TX11) (N := 11) (ci := 9) (index := 10) (k := 0) (ref := "WetSuitPedalsShoes") (zk_lt (rfl : zk 0 = 9) (by decide)) (zd_9 E (rfl : zk 0 = 9) _) rfl (zmi inU_11) 0 (by decide) (zm flRX11_10) rfl (v := .ref (E.1 1)) (rfl) dX11_image_17 ?_
  refine z_get C0 hP (C := RX3) (T := TX3) (N := 3) (ci := 3) (index := 93) (k := 1) (ref := "WetSuitPedalsShoes$Field") (zk_lt (rfl : zk 1 = 3) (by decide)) (zd_3 E (rfl : zk 1 = 3) _) rfl (zmi inU_3) 0 (by decide) (zm flRX11_93) rfl (v := .ref (E.1 2)) (rfl) dX11_image_20 ?_
  refine z_get C0 hP (C := RX1) (T := TX1) (N := 4) (ci := 1) (index := 138) (k := 2) (ref := "WetSuitPedalsShoes$Course") (zk_lt (rfl : zk 2 = 1) (by decide)) (zd_1 E (rfl : zk 2 = 1) _) rfl (zmi inU_1) 0 (by decide) (zm flRX11_138) rfl (v := .int (nI n)) (congrArg (fun z => some (Value.int z)) ((congrFun ((g1_n (by decide)).trans (hF1 _ (by decide))) _).trans (hR.1))) dX11_image_23 ?_
  subst hQ_
  exact z_iret C0 hP hS (v := (nI n)) (by exact ⟨rfl, (fun k hk => (g1_n (by omega)).trans (hF1 k (by omega))), (congrFun (g1_s _ _ _) _).trans (pk_us), zFA_fr22 hz1 (fun k hk => g1_n (by omega)) hna⟩) dX11_image_26
set_option maxHeartbeats 4000000 in
set_option maxRecDepth 100000 in
theorem c_X11_on (l : Launch) (E : zE) (G : zG) (r : Nat → Int32) (n na : Nat) (hI : ¬ G 0 2 = 0 → zFA G 22 r n na ∧ n ≤ 10 ∧ na ≤ 5) : zMi l yX11_on wsX11_on ({ frames := 3, cells := 0, slots := 0, locals := 69 } : Room) E G [.ref (E.1 0)] (fun r1 G1 => (G 0 2 = 0 ∧ -3 = r1 ∧ g1 G 47 (upd (G 47) 3 (G 47 3 + 1)) = G1) ∨ (¬ G 0 2 = 0 ∧ nI n = r1 ∧ (∀ k, (k < 1 ∨ 21 < k) → G1 k = G k) ∧ zFA G1 1 r n na)) := by
  refine zOf (cc := cX11_on) (nL := 1) (ret := (some .int)) RX11 (by decide) rfl rfl (Nat.le_of_ble_eq_true rfl) ?_
  intro p_ e_ s_ m_ a_ b_ me_ c_ ls C0 hP hS hl
  have hx := C0.1
  have hb := C0.2.1
  have hts := C0.2.2.2.2.1
  have hD : zD E (zA E s_.heap.size) := C0.2.2.2.2.2.2.2.2
  have hA : ∀ q : Nat, s_.heap.size ≤ q → zA E s_.heap.size q := fun q h => Or.inr h
  refine z_gen (fun Q_ hQ_ => ?_)
  have hl : lv_has ls 1 [(0, .ref (E.1 0))] := hl
  refine lv_aload_n hx hb dX11_on_0 rfl (lv_at hl 0 rfl) ?_
  refine z_get C0 hP (C := RX11) (T := TX11) (N := 11) (ci := 9) (index := 19) (k := 0) (ref := "WetSuitPedalsShoes") (zk_lt (rfl : zk 0 = 9) (by decide)) (zd_9 E (rfl : zk 0 = 9) _) rfl (zmi inU_11) 2 (by decide) (zm flRX11_19) rfl (v := .int (G 0 2)) (rfl) dX11_on_1 ?_
  refine lv_if_ne (tgt := 14) hx hb dX11_on_4 (by decide) (fun c_4 => ?_) (fun c_4 => ?_)
  · skip
    refine lv_aload_n hx hb dX11_on_14 rfl (lv_at hl 0 rfl) ?_
    refine z_get C0 hP (C := RX11) (T := TX11) (N := 11) (ci := 9) (index := 10) (k := 0) (ref := "WetSuitPedalsShoes") (zk_lt (rfl : zk 0 = 9) (by decide)) (zd_9 E (rfl : zk 0 = 9) _) rfl (zmi inU_11) 0 (by decide) (zm flRX11_10) rfl (v := .ref (E.1 1)) (rfl) dX11_on_15 ?_
    refine lv_aload_n hx hb dX11_on_18 rfl (lv_at hl 0 rfl) ?_
    refine z_get C0 hP (C := RX11) (T := TX11) (N := 11) (ci := 9) (index := 16) (k := 0) (ref := "WetSuitPedalsShoes") (zk_lt (rfl : zk 0 = 9) (by decide)) (zd_9 E (rfl : zk 0 = 9) _) rfl (zmi inU_11) 1 (by decide) (zm flRX11_16) rfl (v := .ref (E.1 22)) (rfl) dX11_on_19 ?_
    refine z_Vv C0 hP hD hA hS (As := [.ref (E.1 22)]) (rest := []) (k := 1) (c_X3_become l E _ 1 22 r n na z_lit_Fie_1 z_lit_Fie_22 (by decide) (hI c_4).1 (hI c_4).2.1 (hI c_4).2.2) (cwV 1 hts (zgV zbw mlRX11_278 imX3_become seX3_become iniRX3 coX3_become) rfl rfl rfl (by decide +kernel) ⟨Nat.le_of_ble_eq_true rfl, Nat.le_of_ble_eq_true rfl⟩) (zk_lt (rfl : zk 1 = 3) (by decide)) (zd_3 E (rfl : zk 1 = 3) _) rfl rfl rfl hl.1 rfl (Nat.le_of_ble_eq_true rfl) dX11_on_22 ⟨Nat.zero_le _, Nat.zero_le _⟩ (fun G1 H locs hw1 hP hS => ?_)
    obtain ⟨hF1, hz1⟩ := hw1
    refine lv_aload_n hx hb dX11_on_25 rfl (lv_at hl 0 rfl) ?_
    refine z_get C0 hP (C := RX11) (T := TX11) (N := 11) (ci := 9) (index := 10) (k := 0) (ref := "WetSuitPedalsShoes") (zk_lt (rfl : zk 0 = 9) (by decide)) (zd_9 E (rfl : zk 0 = 9) _) rfl (zmi inU_11) 0 (by decide) (zm flRX11_10) rfl (v := .ref (E.1 1)) (rfl) dX11_on_26 ?_
    refine z_get C0 hP (C := RX3) (T := TX3) (N := 3) (ci := 3) (index := 93) (k := 1) (ref := "WetSuitPedalsShoes$Field") (zk_lt (rfl : zk 1 = 3) (by decide)) (zd_3 E (rfl : zk 1 = 3) _) rfl (zmi inU_3) 0 (by decide) (zm flRX11_93) rfl (v := .ref (E.1 2)) (rfl) dX11_on_29 ?_
    refine z_get C0 hP (C := RX1) (T := TX1) (N := 4) (ci := 1) (index := 138) (k := 2) (ref := "WetSuitPedalsShoes$Course") (zk_lt (rfl : zk 2 = 1) (by decide)) (zd_1 E (rfl : zk 2 = 1) _) rfl (zmi inU_1) 0 (by decide) (zm flRX11_138) rfl (v := .int (nI n)) (congrArg (fun z => some (Value.int z)) (hz1.1)) dX11_on_32 ?_
    subst hQ_
    exact z_iret C0 hP hS (v := (nI n)) (by exact Or.inr ⟨c_4, rfl, (fun k hk => hF1 k (by omega)), hz1⟩) dX11_on_35
  · skip
    refine lv_aload_n hx hb dX11_on_7 rfl (lv_at hl 0 rfl) ?_
    refine lv_bipush (v := (-3 : Int32)) hx hb dX11_on_8 (by decide) ?_
    refine z_Vi C0 hP hD hA hS (As := [.int (-3 : Int32)]) (rest := []) (k := 0) (c_X11_refuse l E _ (-3 : Int32) 3 (by decide) (by decide) (by decide)) (cwV 1 hts (zgV zbw mlRX11_72 imX11_refuse seX11_refuse iniRX11 coX11_refuse) rfl rfl rfl (by decide +kernel) ⟨Nat.le_of_ble_eq_true rfl, Nat.le_of_ble_eq_true rfl⟩) (zk_lt (rfl : zk 0 = 9) (by decide)) (zd_9 E (rfl : zk 0 = 9) _) rfl rfl rfl hl.1 rfl (Nat.le_of_ble_eq_true rfl) dX11_on_10 ⟨Nat.zero_le _, Nat.zero_le _⟩ (fun r2 G2 H locs hw2 hP hS => ?_)
    obtain ⟨rfl, rfl⟩ := hw2
    subst hQ_
    exact z_iret C0 hP hS (v := (-3 : Int32)) (by exact Or.inl ⟨c_4, rfl, rfl⟩) dX11_on_13
theorem flRX12_16 : Cond.fieldLink RX12 16 "WetSuitPedalsShoesModel" "image" "[I" ∈ zU := zU_m 810 (by decide +kernel) rfl
theorem z_lit_Arr102_95 : zIs 95 tArr102 := by unfold zIs; decide +kernel
theorem flRX12_204 : Cond.fieldLink RX12 204 "WetSuitPedalsShoesModel" "hasImage" "Z" ∈ zU := zU_m 812 (by decide +kernel) rfl
set_option maxHeartbeats 4000000 in
set_option maxRecDepth 100000 in
theorem c_X12_image (l : Launch) (E : zE) (G : zG) (r : Nat → Int32) (n na : Nat) (hM : G 93 = r) (hrn : r 0 = nI n) (hrna : r 1 = nI na) (hn10 : n ≤ 10) (hna : na ≤ 5) : zMi l yX12_image wsX12_image ({ frames := 1, cells := 0, slots := 0, locals := 22 } : Room) E G [.ref (E.1 92)] (fun r1 G1 => nI n = r1 ∧ (∀ k, (k < 92 ∨ 92 < k ∧ k < 95 ∨ 95 < k) → G1 k = G k) ∧ (∀ x, x ≠ 4 → G1 92 x = G 92 x) ∧ G1 92 4 = 1 ∧ ∀ j, j < 102 → G1 95 j = r j) := by
  refine zOf (cc := cX12_image) (nL := 1) (ret := (some .int)) RX12 (by decide) rfl rfl (Nat.le_of_ble_eq_true rfl) ?_
  intro p_ e_ s_ m_ a_ b_ me_ c_ ls C0 hP hS hl
  have hx := C0.1
  have hb := C0.2.1
  have hts := C0.2.2.2.2.1
  have hD : zD E (zA E s_.heap.size) := C0.2.2.2.2.2.2.2.2
  have hA : ∀ q : Nat, s_.heap.size ≤ q → zA E s_.heap.size q := fun q h => Or.inr h
  refine z_gen (fun Q_ hQ_ => ?_)
  have hl : lv_has ls 1 [(0, .ref (E.1 92))] := hl
  refine lv_aload_n hx hb dX12_image_0 rfl (lv_at hl 0 rfl) ?_
  refine z_get C0 hP (C := RX12) (T := TX12) (N := 21) (ci := 10) (index := 9) (k := 92) (ref := "WetSuitPedalsShoesModel") (zk_lt (rfl : zk 92 = 10) (by decide)) (zd_10 E (rfl : zk 92 = 10) _) rfl (zmi inU_12) 0 (by decide) (zm flRX12_9) rfl (v := .ref (E.1 93)) (rfl) dX12_image_1 ?_
  refine lv_aload_n hx hb dX12_image_4 rfl (lv_at hl 0 rfl) ?_
  refine z_get C0 hP (C := RX12) (T := TX12) (N := 21) (ci := 10) (index := 16) (k := 92) (ref := "WetSuitPedalsShoesModel") (zk_lt (rfl : zk 92 = 10) (by decide)) (zd_10 E (rfl : zk 92 = 10) _) rfl (zmi inU_12) 2 (by decide) (zm flRX12_16) rfl (v := .ref (E.1 95)) (rfl) dX12_image_5 ?_
  refine z_Sv C0 hP hD hA hS (As := [.ref (E.1 93), .ref (E.1 95)]) (rest := []) (c_X12_lays l E _ 93 95 z_lit_Arr102_93 z_lit_Arr102_95 (by decide)) (va_cwS 2 hts (zgS zbw mlRX12_149 stX12_lays iniRX12 coX12_lays) rfl rfl rfl (by decide +kernel) ⟨Nat.le_of_ble_eq_true rfl, Nat.le_of_ble_eq_true rfl⟩) rfl hl.1 rfl (Nat.le_of_ble_eq_true rfl) dX12_image_8 ⟨Nat.zero_le _, Nat.zero_le _⟩ (fun G1 H locs hw1 hP hS => ?_)
  obtain ⟨hF1, hcp1⟩ := hw1
  refine lv_aload_n hx hb dX12_image_11 rfl (lv_at hl 0 rfl) ?_
  refine lv_iconst (v := (1 : Int32)) hx hb dX12_image_12 (by decide) ?_
  refine z_put C0 hP hD hS (C := RX12) (T := TX12) (N := 21) (ci := 10) (index := 204) (k := 92) (ref := "WetSuitPedalsShoesModel") (F := G 92) (ty := .boolean) (hF1 _ (by decide)) tyX12 tyX12_ok nmX12 (zk_lt (rfl : zk 92 = 10) (by decide)) (zd_10 E (rfl : zk 92 = 10) _) rfl (zmi inU_12) 4 (by decide) (zm flRX12_204) rfl rfl (by decide +kernel) (by rfl) rfl (by show 4 < 21; decide) (upd (G 92) 4 (1 : Int32)) ((zd_10 E (rfl : zk 92 = 10) _).trans (rfl)) dX12_image_13 (fun H locs hP hS => ?_)
  refine lv_aload_n hx hb dX12_image_16 rfl (lv_at hl 0 rfl) ?_
  refine z_get C0 hP (C := RX12) (T := TX12) (N := 21) (ci := 10) (index := 9) (k := 92) (ref := "WetSuitPedalsShoesModel") (zk_lt (rfl : zk 92 = 10) (by decide)) (zd_10 E (rfl : zk 92 = 10) _) rfl (zmi inU_12) 0 (by decide) (zm flRX12_9) rfl (v := .ref (E.1 93)) (rfl) dX12_image_17 ?_
  refine lv_iconst (v := (0 : Int32)) hx hb dX12_image_20 (by decide) ?_
  refine z_iald C0 hP (k := 93) (i := 0) (v := (nI n)) (rfl : zk 93 = 11) (Nat.lt_of_lt_of_eq (show 0 < 102 by decide) (rfl : zl 93 = 102).symm) rfl dX12_image_21 ((congrFun ((g1_n (by decide)).trans ((hF1 _ (by decide)).trans (hM))) _).trans (hrn)) ?_
  subst hQ_
  exact z_iret C0 hP hS (v := (nI n)) (by exact ⟨rfl, (fun k hk => (g1_n (by omega)).trans (hF1 k (by omega))), (fun x hx => (congrFun (g1_s _ _ _) x).trans (pk_un hx)), (congrFun (g1_s _ _ _) _).trans (pk_us), fun j hj => (congrFun (g1_n (by decide)) j).trans ((hcp1 j hj).trans (congrFun hM j))⟩) dX12_image_22
set_option maxHeartbeats 4000000 in
set_option maxRecDepth 100000 in
theorem c_X12_on (l : Launch) (E : zE) (G : zG) (n : Nat) (hI : ¬ G 92 4 = 0 → G 95 0 = nI n) : zMi l yX12_on wsX12_on ({ frames := 1, cells := 0, slots := 0, locals := 22 } : Room) E G [.ref (E.1 92)] (fun r1 G1 => (G 92 4 = 0 ∧ -3 = r1 ∧ g1 G 99 (upd (G 99) 3 (G 99 3 + 1)) = G1) ∨ (¬ G 92 4 = 0 ∧ nI n = r1 ∧ (∀ k, (k < 93 ∨ 93 < k) → G1 k = G k) ∧ ∀ j, j < 102 → G1 93 j = G 95 j)) := by
  refine zOf (cc := cX12_on) (nL := 1) (ret := (some .int)) RX12 (by decide) rfl rfl (Nat.le_of_ble_eq_true rfl) ?_
  intro p_ e_ s_ m_ a_ b_ me_ c_ ls C0 hP hS hl
  have hx := C0.1
  have hb := C0.2.1
  have hts := C0.2.2.2.2.1
  have hD : zD E (zA E s_.heap.size) := C0.2.2.2.2.2.2.2.2
  have hA : ∀ q : Nat, s_.heap.size ≤ q → zA E s_.heap.size q := fun q h => Or.inr h
  refine z_gen (fun Q_ hQ_ => ?_)
  have hl : lv_has ls 1 [(0, .ref (E.1 92))] := hl
  refine lv_aload_n hx hb dX12_on_0 rfl (lv_at hl 0 rfl) ?_
  refine z_get C0 hP (C := RX12) (T := TX12) (N := 21) (ci := 10) (index := 204) (k := 92) (ref := "WetSuitPedalsShoesModel") (zk_lt (rfl : zk 92 = 10) (by decide)) (zd_10 E (rfl : zk 92 = 10) _) rfl (zmi inU_12) 4 (by decide) (zm flRX12_204) rfl (v := .int (G 92 4)) (rfl) dX12_on_1 ?_
  refine lv_if_ne (tgt := 14) hx hb dX12_on_4 (by decide) (fun c_4 => ?_) (fun c_4 => ?_)
  · skip
    refine lv_aload_n hx hb dX12_on_14 rfl (lv_at hl 0 rfl) ?_
    refine z_get C0 hP (C := RX12) (T := TX12) (N := 21) (ci := 10) (index := 16) (k := 92) (ref := "WetSuitPedalsShoesModel") (zk_lt (rfl : zk 92 = 10) (by decide)) (zd_10 E (rfl : zk 92 = 10) _) rfl (zmi inU_12) 2 (by decide) (zm flRX12_16) rfl (v := .ref (E.1 95)) (rfl) dX12_on_15 ?_
    refine lv_aload_n hx hb dX12_on_18 rfl (lv_at hl 0 rfl) ?_
    refine z_get C0 hP (C := RX12) (T := TX12) (N := 21) (ci := 10) (index := 9) (k := 92) (ref := "WetSuitPedalsShoesModel") (zk_lt (rfl : zk 92 = 10) (by decide)) (zd_10 E (rfl : zk 92 = 10) _) rfl (zmi inU_12) 0 (by decide) (zm flRX12_9) rfl (v := .ref (E.1 93)) (rfl) dX12_on_19 ?_
    refine z_Sv C0 hP hD hA hS (As := [.ref (E.1 95), .ref (E.1 93)]) (rest := []) (c_X12_lays l E _ 95 93 z_lit_Arr102_95 z_lit_Arr102_93 (by decide)) (va_cwS 2 hts (zgS zbw mlRX12_149 stX12_lays iniRX12 coX12_lays) rfl rfl rfl (by decide +kernel) ⟨Nat.le_of_ble_eq_true rfl, Nat.le_of_ble_eq_true rfl⟩) rfl hl.1 rfl (Nat.le_of_ble_eq_true rfl) dX12_on_22 ⟨Nat.zero_le _, Nat.zero_le _⟩ (fun G1 H locs hw1 hP hS => ?_)
    obtain ⟨hF1, hcp1⟩ := hw1
    refine lv_aload_n hx hb dX12_on_25 rfl (lv_at hl 0 rfl) ?_
    refine z_get C0 hP (C := RX12) (T := TX12) (N := 21) (ci := 10) (index := 9) (k := 92) (ref := "WetSuitPedalsShoesModel") (zk_lt (rfl : zk 92 = 10) (by decide)) (zd_10 E (rfl : zk 92 = 10) _) rfl (zmi inU_12) 0 (by decide) (zm flRX12_9) rfl (v := .ref (E.1 93)) (rfl) dX12_on_26 ?_
    refine lv_iconst (v := (0 : Int32)) hx hb dX12_on_29 (by decide) ?_
    refine z_iald C0 hP (k := 93) (i := 0) (v := (nI n)) (rfl : zk 93 = 11) (Nat.lt_of_lt_of_eq (show 0 < 102 by decide) (rfl : zl 93 = 102).symm) rfl dX12_on_30 ((hcp1 0 (by omega)).trans ((hI c_4))) ?_
    subst hQ_
    exact z_iret C0 hP hS (v := (nI n)) (by exact Or.inr ⟨c_4, rfl, (fun k hk => hF1 k (by omega)), fun j hj => hcp1 j hj⟩) dX12_on_31
  · skip
    refine lv_aload_n hx hb dX12_on_7 rfl (lv_at hl 0 rfl) ?_
    refine lv_bipush (v := (-3 : Int32)) hx hb dX12_on_8 (by decide) ?_
    refine z_Vi C0 hP hD hA hS (As := [.int (-3 : Int32)]) (rest := []) (k := 92) (c_X12_no l E _ (-3 : Int32) 3 (by decide) (by decide)) (cwV 1 hts (zgV zbw mlRX12_56 imX12_no seX12_no iniRX12 coX12_no) rfl rfl rfl (by decide +kernel) ⟨Nat.le_of_ble_eq_true rfl, Nat.le_of_ble_eq_true rfl⟩) (zk_lt (rfl : zk 92 = 10) (by decide)) (zd_10 E (rfl : zk 92 = 10) _) rfl rfl rfl hl.1 rfl (Nat.le_of_ble_eq_true rfl) dX12_on_10 ⟨Nat.zero_le _, Nat.zero_le _⟩ (fun r2 G2 H locs hw2 hP hS => ?_)
    obtain ⟨rfl, rfl⟩ := hw2
    subst hQ_
    exact z_iret C0 hP hS (v := (-3 : Int32)) (by exact Or.inl ⟨c_4, rfl, rfl⟩) dX12_on_13
