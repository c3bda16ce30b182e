/-! laid by wip/whole/vcg.py -/
set_option maxHeartbeats 4000000 in
set_option maxRecDepth 100000 in
theorem c_X4_isRide (l : Launch) (E : zE) (G : zG) (k : Int32) : zMi l yX4_isRide wsX4_isRide ({ frames := 0, cells := 0, slots := 0, locals := 0 } : Room) E G [.int k] (fun r G1 => s_isRide k = r ∧ G = G1) := by
  refine zOf (cc := cX4_isRide) (nL := 1) (ret := (some .boolean)) RX4 (by decide) rfl rfl (Nat.le_of_ble_eq_true rfl) ?_
  intro p_ e_ s_ m_ a_ b_ me_ c_ ls C0 hP hS hl
  have hx := C0.1
  have hb := C0.2.1
  have hts := C0.2.2.2.2.1
  have hD : zD E (zA E s_.heap.size) := C0.2.2.2.2.2.2.2.2
  have hA : ∀ q : Nat, s_.heap.size ≤ q → zA E s_.heap.size q := fun q h => Or.inr h
  refine z_gen (fun Q_ hQ_ => ?_)
  have hl : lv_has ls 1 [(0, .int k)] := hl
  refine lv_iload_n hx hb dX4_isRide_0 rfl (lv_at hl 0 rfl) ?_
  refine lv_iconst (v := (2 : Int32)) hx hb dX4_isRide_1 (by decide) ?_
  refine lv_icmp_eq (tgt := 15) hx hb dX4_isRide_2 (by decide) (fun c_2 => ?_) (fun c_2 => ?_)
  · skip
    refine lv_iconst (v := (1 : Int32)) hx hb dX4_isRide_15 (by decide) ?_
    refine lv_goto (tgt := 20) hx hb dX4_isRide_16 (by decide) ?_
    subst hQ_
    exact z_zret C0 hP hS (v := (1 : Int32)) (by decide) (by refine ⟨?_, rfl⟩; simp [s_isRide, c_2]) dX4_isRide_20
  · skip
    refine lv_iload_n hx hb dX4_isRide_5 rfl (lv_at hl 0 rfl) ?_
    refine lv_iconst (v := (3 : Int32)) hx hb dX4_isRide_6 (by decide) ?_
    refine lv_icmp_eq (tgt := 15) hx hb dX4_isRide_7 (by decide) (fun c_7 => ?_) (fun c_7 => ?_)
    · skip
      refine lv_iconst (v := (1 : Int32)) hx hb dX4_isRide_15 (by decide) ?_
      refine lv_goto (tgt := 20) hx hb dX4_isRide_16 (by decide) ?_
      subst hQ_
      exact z_zret C0 hP hS (v := (1 : Int32)) (by decide) (by refine ⟨?_, rfl⟩; simp [s_isRide, c_2, c_7]) dX4_isRide_20
    · skip
      refine lv_iload_n hx hb dX4_isRide_10 rfl (lv_at hl 0 rfl) ?_
      refine lv_iconst (v := (4 : Int32)) hx hb dX4_isRide_11 (by decide) ?_
      refine lv_icmp_ne (tgt := 19) hx hb dX4_isRide_12 (by decide) (fun c_12 => ?_) (fun c_12 => ?_)
      · skip
        refine lv_iconst (v := (0 : Int32)) hx hb dX4_isRide_19 (by decide) ?_
        subst hQ_
        exact z_zret C0 hP hS (v := (0 : Int32)) (by decide) (by refine ⟨?_, rfl⟩; simp [s_isRide, c_2, c_7, c_12]) dX4_isRide_20
      · skip
        refine lv_iconst (v := (1 : Int32)) hx hb dX4_isRide_15 (by decide) ?_
        refine lv_goto (tgt := 20) hx hb dX4_isRide_16 (by decide) ?_
        subst hQ_
        exact z_zret C0 hP hS (v := (1 : Int32)) (by decide) (by refine ⟨?_, rfl⟩; simp [s_isRide, c_2, c_7, c_12]) dX4_isRide_20
set_option maxHeartbeats 4000000 in
set_option maxRecDepth 100000 in
theorem c_X4_takes (l : Launch) (E : zE) (G : zG) (k : Int32) : zMi l yX4_takes wsX4_takes ({ frames := 0, cells := 0, slots := 0, locals := 0 } : Room) E G [.int k] (fun r G1 => s_takes k = r ∧ G = G1) := by
  refine zOf (cc := cX4_takes) (nL := 1) (ret := (some .int)) RX4 (by decide) rfl rfl (Nat.le_of_ble_eq_true rfl) ?_
  intro p_ e_ s_ m_ a_ b_ me_ c_ ls C0 hP hS hl
  have hx := C0.1
  have hb := C0.2.1
  have hts := C0.2.2.2.2.1
  have hD : zD E (zA E s_.heap.size) := C0.2.2.2.2.2.2.2.2
  have hA : ∀ q : Nat, s_.heap.size ≤ q → zA E s_.heap.size q := fun q h => Or.inr h
  refine z_gen (fun Q_ hQ_ => ?_)
  have hl : lv_has ls 1 [(0, .int k)] := hl
  refine lv_iload_n hx hb dX4_takes_0 rfl (lv_at hl 0 rfl) ?_
  rcases z_sw (k) 0 6 with hsw | ⟨k_, hk_, hsw⟩
  · skip
    refine lv_tableOut (tgt := 46) hx hb dX4_takes_1 (z_swo hsw rfl rfl) (by decide) ?_
    have hsn_1_0 : ¬ k = (0 : Int32) := fun q => by rw [q] at hsw; revert hsw; decide
    have hsn_1_1 : ¬ k = (1 : Int32) := fun q => by rw [q] at hsw; revert hsw; decide
    have hsn_1_2 : ¬ k = (2 : Int32) := fun q => by rw [q] at hsw; revert hsw; decide
    have hsn_1_3 : ¬ k = (3 : Int32) := fun q => by rw [q] at hsw; revert hsw; decide
    have hsn_1_4 : ¬ k = (4 : Int32) := fun q => by rw [q] at hsw; revert hsw; decide
    have hsn_1_5 : ¬ k = (5 : Int32) := fun q => by rw [q] at hsw; revert hsw; decide
    refine lv_iconst (v := (0 : Int32)) hx hb dX4_takes_46 (by decide) ?_
    subst hQ_
    exact z_iret C0 hP hS (v := (0 : Int32)) (by refine ⟨?_, rfl⟩; simp [s_takes, hsn_1_0, hsn_1_1, hsn_1_2, hsn_1_3, hsn_1_4, hsn_1_5]) dX4_takes_47
  · skip
    rcases (show k_ = 0 ∨ k_ = 1 ∨ k_ = 2 ∨ k_ = 3 ∨ k_ = 4 ∨ k_ = 5 by omega) with rfl | rfl | rfl | rfl | rfl | rfl
    · skip
      have hsw_1 : k = (0 : Int32) := z_swi hsw (by decide)
      refine lv_tableIn (tgt := 40) (off := 39) hx hb dX4_takes_1 (by rw [hsw_1]; decide) (by rw [hsw_1]; decide) (by rw [hsw_1]; rfl) (by decide) ?_
      refine lv_iconst (v := (1 : Int32)) hx hb dX4_takes_40 (by decide) ?_
      subst hQ_
      exact z_iret C0 hP hS (v := (1 : Int32)) (by refine ⟨?_, rfl⟩; simp [s_takes, hsw_1]) dX4_takes_41
    · skip
      have hsw_1 : k = (1 : Int32) := z_swi hsw (by decide)
      refine lv_tableIn (tgt := 40) (off := 39) hx hb dX4_takes_1 (by rw [hsw_1]; decide) (by rw [hsw_1]; decide) (by rw [hsw_1]; rfl) (by decide) ?_
      refine lv_iconst (v := (1 : Int32)) hx hb dX4_takes_40 (by decide) ?_
      subst hQ_
      exact z_iret C0 hP hS (v := (1 : Int32)) (by refine ⟨?_, rfl⟩; simp [s_takes, hsw_1]) dX4_takes_41
    · skip
      have hsw_1 : k = (2 : Int32) := z_swi hsw (by decide)
      refine lv_tableIn (tgt := 42) (off := 41) hx hb dX4_takes_1 (by rw [hsw_1]; decide) (by rw [hsw_1]; decide) (by rw [hsw_1]; rfl) (by decide) ?_
      refine lv_iconst (v := (2 : Int32)) hx hb dX4_takes_42 (by decide) ?_
      subst hQ_
      exact z_iret C0 hP hS (v := (2 : Int32)) (by refine ⟨?_, rfl⟩; simp [s_takes, hsw_1]) dX4_takes_43
    · skip
      have hsw_1 : k = (3 : Int32) := z_swi hsw (by decide)
      refine lv_tableIn (tgt := 44) (off := 43) hx hb dX4_takes_1 (by rw [hsw_1]; decide) (by rw [hsw_1]; decide) (by rw [hsw_1]; rfl) (by decide) ?_
      refine lv_iconst (v := (3 : Int32)) hx hb dX4_takes_44 (by decide) ?_
      subst hQ_
      exact z_iret C0 hP hS (v := (3 : Int32)) (by refine ⟨?_, rfl⟩; simp [s_takes, hsw_1]) dX4_takes_45
    · skip
      have hsw_1 : k = (4 : Int32) := z_swi hsw (by decide)
      refine lv_tableIn (tgt := 42) (off := 41) hx hb dX4_takes_1 (by rw [hsw_1]; decide) (by rw [hsw_1]; decide) (by rw [hsw_1]; rfl) (by decide) ?_
      refine lv_iconst (v := (2 : Int32)) hx hb dX4_takes_42 (by decide) ?_
      subst hQ_
      exact z_iret C0 hP hS (v := (2 : Int32)) (by refine ⟨?_, rfl⟩; simp [s_takes, hsw_1]) dX4_takes_43
    · skip
      have hsw_1 : k = (5 : Int32) := z_swi hsw (by decide)
      refine lv_tableIn (tgt := 42) (off := 41) hx hb dX4_takes_1 (by rw [hsw_1]; decide) (by rw [hsw_1]; decide) (by rw [hsw_1]; rfl) (by decide) ?_
      refine lv_iconst (v := (2 : Int32)) hx hb dX4_takes_42 (by decide) ?_
      subst hQ_
      exact z_iret C0 hP hS (v := (2 : Int32)) (by refine ⟨?_, rfl⟩; simp [s_takes, hsw_1]) dX4_takes_43
set_option maxHeartbeats 4000000 in
set_option maxRecDepth 100000 in
theorem c_X4_secondsTrying (l : Launch) (E : zE) (G : zG) (u t g : Int32) : zMi l yX4_secondsTrying wsX4_secondsTrying ({ frames := 0, cells := 0, slots := 0, locals := 0 } : Room) E G [.int u, .int t, .int g] (fun r G1 => s_sec u t g = r ∧ G = G1) := by
  refine zOf (cc := cX4_secondsTrying) (nL := 3) (ret := (some .int)) RX4 (by decide) rfl rfl (Nat.le_of_ble_eq_true rfl) ?_
  intro p_ e_ s_ m_ a_ b_ me_ c_ ls C0 hP hS hl
  have hx := C0.1
  have hb := C0.2.1
  have hts := C0.2.2.2.2.1
  have hD : zD E (zA E s_.heap.size) := C0.2.2.2.2.2.2.2.2
  have hA : ∀ q : Nat, s_.heap.size ≤ q → zA E s_.heap.size q := fun q h => Or.inr h
  refine z_gen (fun Q_ hQ_ => ?_)
  have hl : lv_has ls 3 [(0, .int u), (1, .int t), (2, .int g)] := hl
  refine lv_iload_n hx hb dX4_secondsTrying_0 rfl (lv_at hl 2 rfl) ?_
  refine lv_if_le (tgt := 15) hx hb dX4_secondsTrying_1 (by decide) (fun c_1 => ?_) (fun c_1 => ?_)
  · skip
    have d_1 := Int32.not_lt.mpr c_1
    refine lv_iload_n hx hb dX4_secondsTrying_15 rfl (lv_at hl 0 rfl) ?_
    refine lv_iload_n hx hb dX4_secondsTrying_16 rfl (lv_at hl 0 rfl) ?_
    refine lv_iconst (v := (4 : Int32)) hx hb dX4_secondsTrying_17 (by decide) ?_
    refine lv_idiv hx hb dX4_secondsTrying_18 (by decide) ?_
    refine lv_iadd hx hb dX4_secondsTrying_19 ?_
    subst hQ_
    exact z_iret C0 hP hS (v := (u + (u / (4 : Int32)))) (by refine ⟨?_, rfl⟩; simp [s_sec, d_1]) dX4_secondsTrying_20
  · skip
    have d_1 := Int32.not_le.mp c_1
    refine lv_iload_n hx hb dX4_secondsTrying_4 rfl (lv_at hl 0 rfl) ?_
    refine lv_iload_n hx hb dX4_secondsTrying_5 rfl (lv_at hl 0 rfl) ?_
    refine lv_iload_n hx hb dX4_secondsTrying_6 rfl (lv_at hl 1 rfl) ?_
    refine lv_imul hx hb dX4_secondsTrying_7 ?_
    refine lv_bipush (v := (10 : Int32)) hx hb dX4_secondsTrying_8 (by decide) ?_
    refine lv_idiv hx hb dX4_secondsTrying_10 (by decide) ?_
    refine lv_isub hx hb dX4_secondsTrying_11 ?_
    refine lv_goto (tgt := 20) hx hb dX4_secondsTrying_12 (by decide) ?_
    subst hQ_
    exact z_iret C0 hP hS (v := (u - ((u * t) / (10 : Int32)))) (by refine ⟨?_, rfl⟩; simp [s_sec, d_1]) dX4_secondsTrying_20
theorem mlRX4_21 : Cond.methodLink RX4 21 Lib.Math.min.name ∈ zU := zU_m 500 (by decide +kernel) rfl
theorem sMath_min : Cond.static Lib.Math.min.name ∈ zU := zU_m 501 (by decide +kernel) rfl
theorem iniMath : Cond.initialized "java/lang/Math" ∈ zU := zU_m 61 (by decide +kernel) rfl
theorem coMath_min : Cond.code Lib.Math.min.name Lib.Math.min.code 2 (some .int) ∈ zU := zU_m 502 (by decide +kernel) rfl
theorem mlRX4_11 : Cond.methodLink RX4 11 yX4_takes ∈ zU := zU_m 496 (by decide +kernel) rfl
theorem coX4_takes : Cond.code yX4_takes cX4_takes 1 (some .int) ∈ zU := zU_m 420 (by decide +kernel) rfl
theorem stX4_takes : Cond.static yX4_takes ∈ zU := zU_m 419 (by decide +kernel) rfl
theorem iniRX4 : Cond.initialized RX4 ∈ zU := zU_m 59 (by decide +kernel) rfl
theorem mlRX4_15 : Cond.methodLink RX4 15 Lib.Math.max.name ∈ zU := zU_m 497 (by decide +kernel) rfl
theorem sMath_max : Cond.static Lib.Math.max.name ∈ zU := zU_m 498 (by decide +kernel) rfl
theorem coMath_max : Cond.code Lib.Math.max.name Lib.Math.max.code 2 (some .int) ∈ zU := zU_m 499 (by decide +kernel) rfl
set_option maxHeartbeats 4000000 in
set_option maxRecDepth 100000 in
theorem c_X4_legsBehind (l : Launch) (E : zE) (G : zG) (k n t g : Int32) : zMi l yX4_legsBehind wsX4_legsBehind ({ frames := 1, cells := 0, slots := 0, locals := 21 } : Room) E G [.int k, .int n, .int t, .int g] (fun r G1 => s_leg k n t g = r ∧ G = G1) := by
  refine zOf (cc := cX4_legsBehind) (nL := 5) (ret := (some .int)) RX4 (by decide) rfl rfl (Nat.le_of_ble_eq_true rfl) ?_
  intro p_ e_ s_ m_ a_ b_ me_ c_ ls C0 hP hS hl
  have hx := C0.1
  have hb := C0.2.1
  have hts := C0.2.2.2.2.1
  have hD : zD E (zA E s_.heap.size) := C0.2.2.2.2.2.2.2.2
  have hA : ∀ q : Nat, s_.heap.size ≤ q → zA E s_.heap.size q := fun q h => Or.inr h
  refine z_gen (fun Q_ hQ_ => ?_)
  have hl : lv_has ls 5 [(0, .int k), (1, .int n), (2, .int t), (3, .int g)] := hl
  refine lv_iload_n hx hb dX4_legsBehind_0 rfl (lv_at hl 3 rfl) ?_
  refine lv_if_le (tgt := 21) hx hb dX4_legsBehind_1 (by decide) (fun c_1 => ?_) (fun c_1 => ?_)
  · skip
    have d_1 := Int32.not_lt.mpr c_1
    refine lv_iconst (v := (0 : Int32)) hx hb dX4_legsBehind_21 (by decide) ?_
    refine lv_istore (lv' := [(4, .int (0 : Int32)), (0, .int k), (1, .int n), (2, .int t), (3, .int g)]) hx hb dX4_legsBehind_22 hl (by decide) rfl (fun ls hl => ?_)
    refine lv_iload_n hx hb dX4_legsBehind_24 rfl (lv_at hl 1 rfl) ?_
    refine lv_bipush (v := (6 : Int32)) hx hb dX4_legsBehind_25 (by decide) ?_
    refine lv_icmp_ne (tgt := 42) hx hb dX4_legsBehind_27 (by decide) (fun c_27 => ?_) (fun c_27 => ?_)
    · skip
      refine lv_iload hx hb dX4_legsBehind_42 (lv_at hl 0 rfl) ?_
      subst hQ_
      exact z_iret C0 hP hS (v := (0 : Int32)) (by refine ⟨?_, rfl⟩; simp [s_leg, s_left, d_1, c_27]) dX4_legsBehind_44
    · skip
      refine lv_bipush (v := (99 : Int32)) hx hb dX4_legsBehind_30 (by decide) ?_
      refine lv_iload hx hb dX4_legsBehind_32 (lv_at hl 0 rfl) ?_
      refine lv_iconst (v := (5 : Int32)) hx hb dX4_legsBehind_34 (by decide) ?_
      refine z_iadd hx hb (a := 0) (b := 5) (n := 5) dX4_legsBehind_35 rfl rfl rfl ?_
      refine va_mmin hx hb (C0.2.2.1.trans hl.1.symm) C0.2.2.2.1 (hts _ (zm mlRX4_21)) (hts _ (zm sMath_min)) (hts _ (zm iniMath)) (hts _ (zm coMath_min)) (Nat.le_of_ble_eq_true rfl) (Nat.le_of_ble_eq_true rfl) (Nat.zero_le _) (Nat.zero_le _) dX4_legsBehind_36 ?_
      refine z_eqi (y := (s_mn (99 : Int32) (5 : Int32))) (by unfold s_mn; congr) ?_
      refine lv_goto (tgt := 44) hx hb dX4_legsBehind_39 (by decide) ?_
      subst hQ_
      exact z_iret C0 hP hS (v := (s_mn (99 : Int32) (5 : Int32))) (by refine ⟨?_, rfl⟩; simp [s_leg, s_left, d_1, c_27]) dX4_legsBehind_44
  · skip
    have d_1 := Int32.not_le.mp c_1
    refine lv_iconst (v := (0 : Int32)) hx hb dX4_legsBehind_4 (by decide) ?_
    refine lv_iload_n hx hb dX4_legsBehind_5 rfl (lv_at hl 3 rfl) ?_
    refine lv_iload_n hx hb dX4_legsBehind_6 rfl (lv_at hl 0 rfl) ?_
    refine z_Si C0 hP hD hA hS (As := [.int k]) (rest := [.int g, .int (0 : Int32)]) (c_X4_takes l E _ k) (va_cwS 1 hts (zgS zbw mlRX4_11 stX4_takes iniRX4 coX4_takes) rfl rfl rfl (by decide +kernel) ⟨Nat.le_of_ble_eq_true rfl, Nat.le_of_ble_eq_true rfl⟩) rfl hl.1 rfl (Nat.le_of_ble_eq_true rfl) dX4_legsBehind_7 ⟨Nat.zero_le _, Nat.zero_le _⟩ (fun r1 G1 H locs hw1 hP hS => ?_)
    obtain ⟨rfl, rfl⟩ := hw1
    refine lv_iload_n hx hb dX4_legsBehind_10 rfl (lv_at hl 1 rfl) ?_
    refine lv_imul hx hb dX4_legsBehind_11 ?_
    refine lv_iload_n hx hb dX4_legsBehind_12 rfl (lv_at hl 2 rfl) ?_
    refine lv_imul hx hb dX4_legsBehind_13 ?_
    refine lv_isub hx hb dX4_legsBehind_14 ?_
    refine va_mmax hx hb (C0.2.2.1.trans hl.1.symm) C0.2.2.2.1 (hts _ (zm mlRX4_15)) (hts _ (zm sMath_max)) (hts _ (zm iniMath)) (hts _ (zm coMath_max)) (Nat.le_of_ble_eq_true rfl) (Nat.le_of_ble_eq_true rfl) (Nat.zero_le _) (Nat.zero_le _) dX4_legsBehind_15 ?_
    refine z_eqi (y := (s_mx (0 : Int32) (g - (((s_takes k) * n) * t)))) (by unfold s_mx; congr) ?_
    refine lv_goto (tgt := 22) hx hb dX4_legsBehind_18 (by decide) ?_
    refine lv_istore (lv' := [(4, .int (s_mx (0 : Int32) (g - (((s_takes k) * n) * t)))), (0, .int k), (1, .int n), (2, .int t), (3, .int g)]) hx hb dX4_legsBehind_22 hl (by decide) rfl (fun ls hl => ?_)
    refine lv_iload_n hx hb dX4_legsBehind_24 rfl (lv_at hl 1 rfl) ?_
    refine lv_bipush (v := (6 : Int32)) hx hb dX4_legsBehind_25 (by decide) ?_
    refine lv_icmp_ne (tgt := 42) hx hb dX4_legsBehind_27 (by decide) (fun c_27 => ?_) (fun c_27 => ?_)
    · skip
      refine lv_iload hx hb dX4_legsBehind_42 (lv_at hl 0 rfl) ?_
      subst hQ_
      exact z_iret C0 hP hS (v := (s_mx (0 : Int32) (g - (((s_takes k) * n) * t)))) (by refine ⟨?_, rfl⟩; simp [s_leg, s_left, d_1, c_27]) dX4_legsBehind_44
    · skip
      refine lv_bipush (v := (99 : Int32)) hx hb dX4_legsBehind_30 (by decide) ?_
      refine lv_iload hx hb dX4_legsBehind_32 (lv_at hl 0 rfl) ?_
      refine lv_iconst (v := (5 : Int32)) hx hb dX4_legsBehind_34 (by decide) ?_
      refine lv_iadd hx hb dX4_legsBehind_35 ?_
      refine va_mmin hx hb (C0.2.2.1.trans hl.1.symm) C0.2.2.2.1 (hts _ (zm mlRX4_21)) (hts _ (zm sMath_min)) (hts _ (zm iniMath)) (hts _ (zm coMath_min)) (Nat.le_of_ble_eq_true rfl) (Nat.le_of_ble_eq_true rfl) (Nat.zero_le _) (Nat.zero_le _) dX4_legsBehind_36 ?_
      refine z_eqi (y := (s_mn (99 : Int32) ((s_mx (0 : Int32) (g - (((s_takes k) * n) * t))) + (5 : Int32)))) (by unfold s_mn; congr) ?_
      refine lv_goto (tgt := 44) hx hb dX4_legsBehind_39 (by decide) ?_
      subst hQ_
      exact z_iret C0 hP hS (v := (s_mn (99 : Int32) ((s_mx (0 : Int32) (g - (((s_takes k) * n) * t))) + (5 : Int32)))) (by refine ⟨?_, rfl⟩; simp [s_leg, s_left, d_1, c_27]) dX4_legsBehind_44
theorem flRX1_9 : Cond.fieldLink RX1 9 "WetSuitPedalsShoes$Course" "many" "I" ∈ zU := zU_m 83 (by decide +kernel) rfl
set_option maxHeartbeats 4000000 in
set_option maxRecDepth 100000 in
theorem c_X1_has (l : Launch) (E : zE) (G : zG) (c n : Nat) (i : Int32) (hc : zIs c tCou) (hn : G c 0 = nI n) (hn2 : n < 2 ^ 31) : zMi l yX1_has wsX1_has ({ frames := 0, cells := 0, slots := 0, locals := 0 } : Room) E G [.ref (E.1 c), .int i] (fun r G1 => (1 = r ∧ G = G1 ∧ ∃ j : Nat, j < n ∧ i = nI j) ∨ (0 = r ∧ G = G1 ∧ ¬ ∃ j : Nat, j < n ∧ i = nI j)) := by
  refine zOf (cc := cX1_has) (nL := 2) (ret := (some .boolean)) RX1 (by decide) rfl rfl (Nat.le_of_ble_eq_true rfl) ?_
  intro p_ e_ s_ m_ a_ b_ me_ c_ ls C0 hP hS hl
  have hx := C0.1
  have hb := C0.2.1
  have hts := C0.2.2.2.2.1
  have hD : zD E (zA E s_.heap.size) := C0.2.2.2.2.2.2.2.2
  have hA : ∀ q : Nat, s_.heap.size ≤ q → zA E s_.heap.size q := fun q h => Or.inr h
  refine z_gen (fun Q_ hQ_ => ?_)
  have hl : lv_has ls 2 [(0, .ref (E.1 c)), (1, .int i)] := hl
  refine lv_iload_n hx hb dX1_has_0 rfl (lv_at hl 1 rfl) ?_
  refine lv_if_lt (tgt := 16) hx hb dX1_has_1 (by decide) (fun c_1 => ?_) (fun c_1 => ?_)
  · skip
    refine lv_iconst (v := (0 : Int32)) hx hb dX1_has_16 (by decide) ?_
    subst hQ_
    exact z_zret C0 hP hS (v := (0 : Int32)) (by decide) (by exact Or.inr ⟨rfl, rfl, z_has0 hn2 (by first | exact Or.inl c_1 | exact Or.inr c_9)⟩) dX1_has_17
  · skip
    refine lv_iload_n hx hb dX1_has_4 rfl (lv_at hl 1 rfl) ?_
    refine lv_aload_n hx hb dX1_has_5 rfl (lv_at hl 0 rfl) ?_
    refine z_get C0 hP (C := RX1) (T := TX1) (N := 4) (ci := 1) (index := 9) (k := c) (ref := "WetSuitPedalsShoes$Course") (zk_lt (hc (0, 1, 4) (by decide)).1 (by decide)) (zd_1 E (hc (0, 1, 4) (by decide)).1 _) rfl (zmi inU_1) 0 (by decide) (zm flRX1_9) rfl (v := .int (nI n)) (congrArg (fun z => some (Value.int z)) (hn)) dX1_has_6 ?_
    refine lv_icmp_ge (tgt := 16) hx hb dX1_has_9 (by decide) (fun c_9 => ?_) (fun c_9 => ?_)
    · skip
      have d_9 := Int32.not_lt.mpr c_9
      refine lv_iconst (v := (0 : Int32)) hx hb dX1_has_16 (by decide) ?_
      subst hQ_
      exact z_zret C0 hP hS (v := (0 : Int32)) (by decide) (by exact Or.inr ⟨rfl, rfl, z_has0 hn2 (by first | exact Or.inl c_1 | exact Or.inr c_9)⟩) dX1_has_17
    · skip
      have d_9 := Int32.not_le.mp c_9
      refine lv_iconst (v := (1 : Int32)) hx hb dX1_has_12 (by decide) ?_
      refine lv_goto (tgt := 17) hx hb dX1_has_13 (by decide) ?_
      subst hQ_
      exact z_zret C0 hP hS (v := (1 : Int32)) (by decide) (by exact Or.inl ⟨rfl, rfl, z_has1 hn2 c_1 c_9⟩) dX1_has_17
set_option maxHeartbeats 4000000 in
set_option maxRecDepth 100000 in
theorem c_X1_hasN (l : Launch) (E : zE) (G : zG) (c n i : Nat) (hc : zIs c tCou) (hn : G c 0 = nI n) (hn2 : n < 2 ^ 31) (hi : i < n) : zMi l yX1_has wsX1_has ({ frames := 0, cells := 0, slots := 0, locals := 0 } : Room) E G [.ref (E.1 c), .int (nI i)] (fun r G1 => 1 = r ∧ G = G1) := by
  refine zOf (cc := cX1_has) (nL := 2) (ret := (some .boolean)) RX1 (by decide) rfl rfl (Nat.le_of_ble_eq_true rfl) ?_
  intro p_ e_ s_ m_ a_ b_ me_ c_ ls C0 hP hS hl
  have hx := C0.1
  have hb := C0.2.1
  have hts := C0.2.2.2.2.1
  have hD : zD E (zA E s_.heap.size) := C0.2.2.2.2.2.2.2.2
  have hA : ∀ q : Nat, s_.heap.size ≤ q → zA E s_.heap.size q := fun q h => Or.inr h
  refine z_gen (fun Q_ hQ_ => ?_)
  have hl : lv_has ls 2 [(0, .ref (E.1 c)), (1, .int (nI i))] := hl
  refine lv_iload_n hx hb dX1_has_0 rfl (lv_at hl 1 rfl) ?_
  refine z_0_lt hx hb (a := i) (tgt := 16) dX1_has_1 rfl (by omega) (by decide) (fun c_1 => ?_) (fun c_1 => ?_)
  · skip
    refine lv_iconst (v := (0 : Int32)) hx hb dX1_has_16 (by decide) ?_
    subst hQ_
    exact z_zret C0 hP hS (v := (0 : Int32)) (by decide) (by exact absurd hi (by omega)) dX1_has_17
  · skip
    refine lv_iload_n hx hb dX1_has_4 rfl (lv_at hl 1 rfl) ?_
    refine lv_aload_n hx hb dX1_has_5 rfl (lv_at hl 0 rfl) ?_
    refine z_get C0 hP (C := RX1) (T := TX1) (N := 4) (ci := 1) (index := 9) (k := c) (ref := "WetSuitPedalsShoes$Course") (zk_lt (hc (0, 1, 4) (by decide)).1 (by decide)) (zd_1 E (hc (0, 1, 4) (by decide)).1 _) rfl (zmi inU_1) 0 (by decide) (zm flRX1_9) rfl (v := .int (nI n)) (congrArg (fun z => some (Value.int z)) (hn)) dX1_has_6 ?_
    refine z_N_ge hx hb (a := i) (b := n) (tgt := 16) dX1_has_9 rfl rfl (by omega) (by omega) (by decide) (fun c_9 => ?_) (fun c_9 => ?_)
    · skip
      refine lv_iconst (v := (0 : Int32)) hx hb dX1_has_16 (by decide) ?_
      subst hQ_
      exact z_zret C0 hP hS (v := (0 : Int32)) (by decide) (by exact absurd hi (by omega)) dX1_has_17
    · skip
      refine lv_iconst (v := (1 : Int32)) hx hb dX1_has_12 (by decide) ?_
      refine lv_goto (tgt := 17) hx hb dX1_has_13 (by decide) ?_
      subst hQ_
      exact z_zret C0 hP hS (v := (1 : Int32)) (by decide) (by exact ⟨rfl, rfl⟩) dX1_has_17
theorem flRX3_24 : Cond.fieldLink RX3 24 "WetSuitPedalsShoes$Field" "many" "I" ∈ zU := zU_m 135 (by decide +kernel) rfl
set_option maxHeartbeats 4000000 in
set_option maxRecDepth 100000 in
theorem c_X3_has (l : Launch) (E : zE) (G : zG) (f n : Nat) (i : Int32) (hf : zIs f tFie) (hn : G f 2 = nI n) (hn2 : n < 2 ^ 31) : zMi l yX3_has wsX3_has ({ frames := 0, cells := 0, slots := 0, locals := 0 } : Room) E G [.ref (E.1 f), .int i] (fun r G1 => (1 = r ∧ G = G1 ∧ ∃ j : Nat, j < n ∧ i = nI j) ∨ (0 = r ∧ G = G1 ∧ ¬ ∃ j : Nat, j < n ∧ i = nI j)) := by
  refine zOf (cc := cX3_has) (nL := 2) (ret := (some .boolean)) RX3 (by decide) rfl rfl (Nat.le_of_ble_eq_true rfl) ?_
  intro p_ e_ s_ m_ a_ b_ me_ c_ ls C0 hP hS hl
  have hx := C0.1
  have hb := C0.2.1
  have hts := C0.2.2.2.2.1
  have hD : zD E (zA E s_.heap.size) := C0.2.2.2.2.2.2.2.2
  have hA : ∀ q : Nat, s_.heap.size ≤ q → zA E s_.heap.size q := fun q h => Or.inr h
  refine z_gen (fun Q_ hQ_ => ?_)
  have hl : lv_has ls 2 [(0, .ref (E.1 f)), (1, .int i)] := hl
  refine lv_iload_n hx hb dX3_has_0 rfl (lv_at hl 1 rfl) ?_
  refine lv_if_lt (tgt := 16) hx hb dX3_has_1 (by decide) (fun c_1 => ?_) (fun c_1 => ?_)
  · skip
    refine lv_iconst (v := (0 : Int32)) hx hb dX3_has_16 (by decide) ?_
    subst hQ_
    exact z_zret C0 hP hS (v := (0 : Int32)) (by decide) (by exact Or.inr ⟨rfl, rfl, z_has0 hn2 (by first | exact Or.inl c_1 | exact Or.inr c_9)⟩) dX3_has_17
  · skip
    refine lv_iload_n hx hb dX3_has_4 rfl (lv_at hl 1 rfl) ?_
    refine lv_aload_n hx hb dX3_has_5 rfl (lv_at hl 0 rfl) ?_
    refine z_get C0 hP (C := RX3) (T := TX3) (N := 3) (ci := 3) (index := 24) (k := f) (ref := "WetSuitPedalsShoes$Field") (zk_lt (hf (0, 3, 3) (by decide)).1 (by decide)) (zd_3 E (hf (0, 3, 3) (by decide)).1 _) rfl (zmi inU_3) 2 (by decide) (zm flRX3_24) rfl (v := .int (nI n)) (congrArg (fun z => some (Value.int z)) (hn)) dX3_has_6 ?_
    refine lv_icmp_ge (tgt := 16) hx hb dX3_has_9 (by decide) (fun c_9 => ?_) (fun c_9 => ?_)
    · skip
      have d_9 := Int32.not_lt.mpr c_9
      refine lv_iconst (v := (0 : Int32)) hx hb dX3_has_16 (by decide) ?_
      subst hQ_
      exact z_zret C0 hP hS (v := (0 : Int32)) (by decide) (by exact Or.inr ⟨rfl, rfl, z_has0 hn2 (by first | exact Or.inl c_1 | exact Or.inr c_9)⟩) dX3_has_17
    · skip
      have d_9 := Int32.not_le.mp c_9
      refine lv_iconst (v := (1 : Int32)) hx hb dX3_has_12 (by decide) ?_
      refine lv_goto (tgt := 17) hx hb dX3_has_13 (by decide) ?_
      subst hQ_
      exact z_zret C0 hP hS (v := (1 : Int32)) (by decide) (by exact Or.inl ⟨rfl, rfl, z_has1 hn2 c_1 c_9⟩) dX3_has_17
set_option maxHeartbeats 4000000 in
set_option maxRecDepth 100000 in
theorem c_X3_hasN (l : Launch) (E : zE) (G : zG) (f n i : Nat) (hf : zIs f tFie) (hn : G f 2 = nI n) (hn2 : n < 2 ^ 31) (hi : i < n) : zMi l yX3_has wsX3_has ({ frames := 0, cells := 0, slots := 0, locals := 0 } : Room) E G [.ref (E.1 f), .int (nI i)] (fun r G1 => 1 = r ∧ G = G1) := by
  refine zOf (cc := cX3_has) (nL := 2) (ret := (some .boolean)) RX3 (by decide) rfl rfl (Nat.le_of_ble_eq_true rfl) ?_
  intro p_ e_ s_ m_ a_ b_ me_ c_ ls C0 hP hS hl
  have hx := C0.1
  have hb := C0.2.1
  have hts := C0.2.2.2.2.1
  have hD : zD E (zA E s_.heap.size) := C0.2.2.2.2.2.2.2.2
  have hA : ∀ q : Nat, s_.heap.size ≤ q → zA E s_.heap.size q := fun q h => Or.inr h
  refine z_gen (fun Q_ hQ_ => ?_)
  have hl : lv_has ls 2 [(0, .ref (E.1 f)), (1, .int (nI i))] := hl
  refine lv_iload_n hx hb dX3_has_0 rfl (lv_at hl 1 rfl) ?_
  refine z_0_lt hx hb (a := i) (tgt := 16) dX3_has_1 rfl (by omega) (by decide) (fun c_1 => ?_) (fun c_1 => ?_)
  · skip
    refine lv_iconst (v := (0 : Int32)) hx hb dX3_has_16 (by decide) ?_
    subst hQ_
    exact z_zret C0 hP hS (v := (0 : Int32)) (by decide) (by exact absurd hi (by omega)) dX3_has_17
  · skip
    refine lv_iload_n hx hb dX3_has_4 rfl (lv_at hl 1 rfl) ?_
    refine lv_aload_n hx hb dX3_has_5 rfl (lv_at hl 0 rfl) ?_
    refine z_get C0 hP (C := RX3) (T := TX3) (N := 3) (ci := 3) (index := 24) (k := f) (ref := "WetSuitPedalsShoes$Field") (zk_lt (hf (0, 3, 3) (by decide)).1 (by decide)) (zd_3 E (hf (0, 3, 3) (by decide)).1 _) rfl (zmi inU_3) 2 (by decide) (zm flRX3_24) rfl (v := .int (nI n)) (congrArg (fun z => some (Value.int z)) (hn)) dX3_has_6 ?_
    refine z_N_ge hx hb (a := i) (b := n) (tgt := 16) dX3_has_9 rfl rfl (by omega) (by omega) (by decide) (fun c_9 => ?_) (fun c_9 => ?_)
    · skip
      refine lv_iconst (v := (0 : Int32)) hx hb dX3_has_16 (by decide) ?_
      subst hQ_
      exact z_zret C0 hP hS (v := (0 : Int32)) (by decide) (by exact absurd hi (by omega)) dX3_has_17
    · skip
      refine lv_iconst (v := (1 : Int32)) hx hb dX3_has_12 (by decide) ?_
      refine lv_goto (tgt := 17) hx hb dX3_has_13 (by decide) ?_
      subst hQ_
      exact z_zret C0 hP hS (v := (1 : Int32)) (by decide) (by exact ⟨rfl, rfl⟩) dX3_has_17
theorem flRX1_15 : Cond.fieldLink RX1 15 "WetSuitPedalsShoes$Course" "kind" "[I" ∈ zU := zU_m 89 (by decide +kernel) rfl
theorem mlRX1_47 : Cond.methodLink RX1 47 yX4_isRide ∈ zU := zU_m 487 (by decide +kernel) rfl
theorem coX4_isRide : Cond.code yX4_isRide cX4_isRide 1 (some .boolean) ∈ zU := zU_m 489 (by decide +kernel) rfl
theorem stX4_isRide : Cond.static yX4_isRide ∈ zU := zU_m 488 (by decide +kernel) rfl
set_option maxHeartbeats 4000000 in
set_option maxRecDepth 100000 in
theorem c_X1_isBehindRide (l : Launch) (E : zE) (G : zG) (c i : Nat) (hc : zIs c tCou) (hi : i ≤ 10) : zMi l yX1_isBehindRide wsX1_isBehindRide ({ frames := 1, cells := 0, slots := 0, locals := 20 } : Room) E G [.ref (E.1 c), .int (nI i)] (fun r G1 => (if 0 < i ∧ s_isRide (G (c + 1) (i - 1)) = 1 then 1 else 0) = r ∧ G = G1) := by
  refine zOf (cc := cX1_isBehindRide) (nL := 2) (ret := (some .boolean)) RX1 (by decide) rfl rfl (Nat.le_of_ble_eq_true rfl) ?_
  intro p_ e_ s_ m_ a_ b_ me_ c_ ls C0 hP hS hl
  have hx := C0.1
  have hb := C0.2.1
  have hts := C0.2.2.2.2.1
  have hD : zD E (zA E s_.heap.size) := C0.2.2.2.2.2.2.2.2
  have hA : ∀ q : Nat, s_.heap.size ≤ q → zA E s_.heap.size q := fun q h => Or.inr h
  refine z_gen (fun Q_ hQ_ => ?_)
  have hl : lv_has ls 2 [(0, .ref (E.1 c)), (1, .int (nI i))] := hl
  refine lv_iload_n hx hb dX1_isBehindRide_0 rfl (lv_at hl 1 rfl) ?_
  refine z_0_le hx hb (a := i) (tgt := 22) dX1_isBehindRide_1 rfl (by omega) (by decide) (fun c_1 => ?_) (fun c_1 => ?_)
  · skip
    refine lv_iconst (v := (0 : Int32)) hx hb dX1_isBehindRide_22 (by decide) ?_
    subst hQ_
    exact z_zret C0 hP hS (v := (0 : Int32)) (by decide) (by refine ⟨?_, rfl⟩; simp [c_1]) dX1_isBehindRide_23
  · skip
    refine lv_aload_n hx hb dX1_isBehindRide_4 rfl (lv_at hl 0 rfl) ?_
    refine z_get C0 hP (C := RX1) (T := TX1) (N := 4) (ci := 1) (index := 15) (k := c) (ref := "WetSuitPedalsShoes$Course") (zk_lt (hc (0, 1, 4) (by decide)).1 (by decide)) (zd_1 E (hc (0, 1, 4) (by decide)).1 _) rfl (zmi inU_1) 1 (by decide) (zm flRX1_15) rfl (v := .ref (E.1 (c + 1))) (rfl) dX1_isBehindRide_5 ?_
    refine lv_iload_n hx hb dX1_isBehindRide_8 rfl (lv_at hl 1 rfl) ?_
    refine lv_iconst (v := (1 : Int32)) hx hb dX1_isBehindRide_9 (by decide) ?_
    refine z_isub hx hb (a := i) (b := 1) (n := i - 1) dX1_isBehindRide_10 rfl rfl (by omega) (by omega) ?_
    refine z_iald C0 hP (k := (c + 1)) (i := i - 1) (v := (G (c + 1) (i - 1))) (hc (1, 11, 10) (by decide)).1 (Nat.lt_of_lt_of_eq (show i - 1 < 10 by omega) (hc (1, 11, 10) (by decide)).2.symm) rfl dX1_isBehindRide_11 (rfl) ?_
    refine z_Si C0 hP hD hA hS (As := [.int (G (c + 1) (i - 1))]) (rest := []) (c_X4_isRide l E _ (G (c + 1) (i - 1))) (va_cwS 1 hts (zgS zbw mlRX1_47 stX4_isRide iniRX4 coX4_isRide) rfl rfl rfl (by decide +kernel) ⟨Nat.le_of_ble_eq_true rfl, Nat.le_of_ble_eq_true rfl⟩) rfl hl.1 rfl (Nat.le_of_ble_eq_true rfl) dX1_isBehindRide_12 ⟨Nat.zero_le _, Nat.zero_le _⟩ (fun r1 G1 H locs hw1 hP hS => ?_)
    obtain ⟨rfl, rfl⟩ := hw1
    refine lv_if_eq (tgt := 22) hx hb dX1_isBehindRide_15 (by decide) (fun c_15 => ?_) (fun c_15 => ?_)
    · skip
      refine lv_iconst (v := (0 : Int32)) hx hb dX1_isBehindRide_22 (by decide) ?_
      subst hQ_
      exact z_zret C0 hP hS (v := (0 : Int32)) (by decide) (by refine ⟨?_, rfl⟩; simp [c_1, c_15]) dX1_isBehindRide_23
    · skip
      have e_15 := s_ride_ne c_15
      refine lv_iconst (v := (1 : Int32)) hx hb dX1_isBehindRide_18 (by decide) ?_
      refine lv_goto (tgt := 23) hx hb dX1_isBehindRide_19 (by decide) ?_
      subst hQ_
      exact z_zret C0 hP hS (v := (1 : Int32)) (by decide) (by refine ⟨?_, rfl⟩; simp [c_1, c_15, e_15]) dX1_isBehindRide_23
theorem flRX1_22 : Cond.fieldLink RX1 22 "WetSuitPedalsShoes$Course" "length" "[I" ∈ zU := zU_m 95 (by decide +kernel) rfl
theorem flRX1_19 : Cond.fieldLink RX1 19 "WetSuitPedalsShoes$Course" "figure" "[I" ∈ zU := zU_m 93 (by decide +kernel) rfl
theorem flRX1_39 : Cond.fieldLink RX1 39 "WetSuitPedalsShoes$Athlete" "able" "[I" ∈ zU := zU_m 120 (by decide +kernel) rfl
theorem mlRX1_44 : Cond.methodLink RX1 44 yX1_isBehindRide ∈ zU := zU_m 483 (by decide +kernel) rfl
theorem coX1_isBehindRide : Cond.code yX1_isBehindRide cX1_isBehindRide 2 (some .boolean) ∈ zU := zU_m 486 (by decide +kernel) rfl
theorem imX1_isBehindRide : Cond.instanceMethod yX1_isBehindRide ∈ zU := zU_m 485 (by decide +kernel) rfl
theorem seX1_isBehindRide : Cond.selects RX1 yX1_isBehindRide yX1_isBehindRide ∈ zU := zU_m 10 (by decide +kernel) rfl
theorem iniRX1 : Cond.initialized RX1 ∈ zU := zU_m 50 (by decide +kernel) rfl
set_option maxHeartbeats 4000000 in
set_option maxRecDepth 100000 in
theorem c_X1_untried (l : Launch) (E : zE) (G : zG) (c i a : Nat) (hc : zIs c tCou) (ha : zIs a tAth) (hi : i < 10) : zMi l yX1_untried wsX1_untried ({ frames := 2, cells := 0, slots := 0, locals := 41 } : Room) E G [.ref (E.1 c), .int (nI i), .ref (E.1 a)] (fun r G1 => s_plain (G (c + 1)) (G (c + 2)) (G (c + 3)) (G (a + 1)) i = r ∧ G = G1) := by
  refine zOf (cc := cX1_untried) (nL := 6) (ret := (some .int)) RX1 (by decide) rfl rfl (Nat.le_of_ble_eq_true rfl) ?_
  intro p_ e_ s_ m_ a_ b_ me_ c_ ls C0 hP hS hl
  have hx := C0.1
  have hb := C0.2.1
  have hts := C0.2.2.2.2.1
  have hD : zD E (zA E s_.heap.size) := C0.2.2.2.2.2.2.2.2
  have hA : ∀ q : Nat, s_.heap.size ≤ q → zA E s_.heap.size q := fun q h => Or.inr h
  refine z_gen (fun Q_ hQ_ => ?_)
  have hl : lv_has ls 6 [(0, .ref (E.1 c)), (1, .int (nI i)), (2, .ref (E.1 a))] := hl
  refine lv_aload_n hx hb dX1_untried_0 rfl (lv_at hl 0 rfl) ?_
  refine z_get C0 hP (C := RX1) (T := TX1) (N := 4) (ci := 1) (index := 22) (k := c) (ref := "WetSuitPedalsShoes$Course") (zk_lt (hc (0, 1, 4) (by decide)).1 (by decide)) (zd_1 E (hc (0, 1, 4) (by decide)).1 _) rfl (zmi inU_1) 3 (by decide) (zm flRX1_22) rfl (v := .ref (E.1 (c + 3))) (rfl) dX1_untried_1 ?_
  refine lv_iload_n hx hb dX1_untried_4 rfl (lv_at hl 1 rfl) ?_
  refine z_iald C0 hP (k := (c + 3)) (i := i) (v := (G (c + 3) i)) (hc (3, 11, 10) (by decide)).1 (Nat.lt_of_lt_of_eq (show i < 10 by omega) (hc (3, 11, 10) (by decide)).2.symm) rfl dX1_untried_5 (rfl) ?_
  refine lv_istore_n (lv' := [(3, .int (G (c + 3) i)), (0, .ref (E.1 c)), (1, .int (nI i)), (2, .ref (E.1 a))]) hx hb dX1_untried_6 rfl hl (by decide) rfl (fun ls hl => ?_)
  refine lv_aload_n hx hb dX1_untried_7 rfl (lv_at hl 1 rfl) ?_
  refine z_get C0 hP (C := RX1) (T := TX1) (N := 4) (ci := 1) (index := 19) (k := c) (ref := "WetSuitPedalsShoes$Course") (zk_lt (hc (0, 1, 4) (by decide)).1 (by decide)) (zd_1 E (hc (0, 1, 4) (by decide)).1 _) rfl (zmi inU_1) 2 (by decide) (zm flRX1_19) rfl (v := .ref (E.1 (c + 2))) (rfl) dX1_untried_8 ?_
  refine lv_iload_n hx hb dX1_untried_11 rfl (lv_at hl 2 rfl) ?_
  refine z_iald C0 hP (k := (c + 2)) (i := i) (v := (G (c + 2) i)) (hc (2, 11, 10) (by decide)).1 (Nat.lt_of_lt_of_eq (show i < 10 by omega) (hc (2, 11, 10) (by decide)).2.symm) rfl dX1_untried_12 (rfl) ?_
  refine lv_istore (lv' := [(4, .int (G (c + 2) i)), (3, .int (G (c + 3) i)), (0, .ref (E.1 c)), (1, .int (nI i)), (2, .ref (E.1 a))]) hx hb dX1_untried_13 hl (by decide) rfl (fun ls hl => ?_)
  refine lv_aload_n hx hb dX1_untried_15 rfl (lv_at hl 2 rfl) ?_
  refine z_get C0 hP (C := RX1) (T := TX1) (N := 4) (ci := 1) (index := 15) (k := c) (ref := "WetSuitPedalsShoes$Course") (zk_lt (hc (0, 1, 4) (by decide)).1 (by decide)) (zd_1 E (hc (0, 1, 4) (by decide)).1 _) rfl (zmi inU_1) 1 (by decide) (zm flRX1_15) rfl (v := .ref (E.1 (c + 1))) (rfl) dX1_untried_16 ?_
  refine lv_iload_n hx hb dX1_untried_19 rfl (lv_at hl 3 rfl) ?_
  refine z_iald C0 hP (k := (c + 1)) (i := i) (v := (G (c + 1) i)) (hc (1, 11, 10) (by decide)).1 (Nat.lt_of_lt_of_eq (show i < 10 by omega) (hc (1, 11, 10) (by decide)).2.symm) rfl dX1_untried_20 (rfl) ?_
  rcases z_sw ((G (c + 1) i)) 0 6 with hsw | ⟨k_, hk_, hsw⟩
  · skip
    refine lv_tableOut (tgt := 164) hx hb dX1_untried_21 (z_swo hsw rfl rfl) (by decide) ?_
    have hsn_21_0 : ¬ (G (c + 1) i) = (0 : Int32) := fun q => by rw [q] at hsw; revert hsw; decide
    have hsn_21_1 : ¬ (G (c + 1) i) = (1 : Int32) := fun q => by rw [q] at hsw; revert hsw; decide
    have hsn_21_2 : ¬ (G (c + 1) i) = (2 : Int32) := fun q => by rw [q] at hsw; revert hsw; decide
    have hsn_21_3 : ¬ (G (c + 1) i) = (3 : Int32) := fun q => by rw [q] at hsw; revert hsw; decide
    have hsn_21_4 : ¬ (G (c + 1) i) = (4 : Int32) := fun q => by rw [q] at hsw; revert hsw; decide
    have hsn_21_5 : ¬ (G (c + 1) i) = (5 : Int32) := fun q => by rw [q] at hsw; revert hsw; decide
    refine lv_bipush (v := (10 : Int32)) hx hb dX1_untried_164 (by decide) ?_
    refine lv_iconst (v := (5 : Int32)) hx hb dX1_untried_166 (by decide) ?_
    refine lv_iload hx hb dX1_untried_167 (lv_at hl 0 rfl) ?_
    refine lv_imul hx hb dX1_untried_169 ?_
    refine lv_iadd hx hb dX1_untried_170 ?_
    subst hQ_
    exact z_iret C0 hP hS (v := ((10 : Int32) + ((5 : Int32) * (G (c + 2) i)))) (by refine ⟨?_, rfl⟩; simp [s_plain, hsn_21_0, hsn_21_1, hsn_21_2, hsn_21_3, hsn_21_4, hsn_21_5]) dX1_untried_171
  · skip
    rcases (show k_ = 0 ∨ k_ = 1 ∨ k_ = 2 ∨ k_ = 3 ∨ k_ = 4 ∨ k_ = 5 by omega) with rfl | rfl | rfl | rfl | rfl | rfl
    · skip
      have hsw_21 : (G (c + 1) i) = (0 : Int32) := z_swi hsw (by decide)
      refine lv_tableIn (tgt := 60) (off := 39) hx hb dX1_untried_21 (by rw [hsw_21]; decide) (by rw [hsw_21]; decide) (by rw [hsw_21]; rfl) (by decide) ?_
      refine lv_iload_n hx hb dX1_untried_60 rfl (lv_at hl 1 rfl) ?_
      refine lv_bipush (v := (20 : Int32)) hx hb dX1_untried_61 (by decide) ?_
      refine lv_aload_n hx hb dX1_untried_63 rfl (lv_at hl 4 rfl) ?_
      refine z_get C0 hP (C := RX0) (T := TX0) (N := 2) (ci := 0) (index := 39) (k := a) (ref := "WetSuitPedalsShoes$Athlete") (zk_lt (ha (0, 0, 2) (by decide)).1 (by decide)) (zd_0 E (ha (0, 0, 2) (by decide)).1 _) rfl (zmi inU_0) 0 (by decide) (zm flRX1_39) rfl (v := .ref (E.1 (a + 1))) (rfl) dX1_untried_64 ?_
      refine lv_iconst (v := (0 : Int32)) hx hb dX1_untried_67 (by decide) ?_
      refine z_iald C0 hP (k := (a + 1)) (i := 0) (v := (G (a + 1) 0)) (ha (1, 11, 4) (by decide)).1 (Nat.lt_of_lt_of_eq (show 0 < 4 by decide) (ha (1, 11, 4) (by decide)).2.symm) rfl dX1_untried_68 (rfl) ?_
      refine lv_isub hx hb dX1_untried_69 ?_
      refine lv_imul hx hb dX1_untried_70 ?_
      subst hQ_
      exact z_iret C0 hP hS (v := ((G (c + 3) i) * ((20 : Int32) - (G (a + 1) 0)))) (by refine ⟨?_, rfl⟩; simp [s_plain, hsw_21]) dX1_untried_71
    · skip
      have hsw_21 : (G (c + 1) i) = (1 : Int32) := z_swi hsw (by decide)
      refine lv_tableIn (tgt := 72) (off := 51) hx hb dX1_untried_21 (by rw [hsw_21]; decide) (by rw [hsw_21]; decide) (by rw [hsw_21]; rfl) (by decide) ?_
      refine lv_iload_n hx hb dX1_untried_72 rfl (lv_at hl 1 rfl) ?_
      refine lv_bipush (v := (20 : Int32)) hx hb dX1_untried_73 (by decide) ?_
      refine lv_aload_n hx hb dX1_untried_75 rfl (lv_at hl 4 rfl) ?_
      refine z_get C0 hP (C := RX0) (T := TX0) (N := 2) (ci := 0) (index := 39) (k := a) (ref := "WetSuitPedalsShoes$Athlete") (zk_lt (ha (0, 0, 2) (by decide)).1 (by decide)) (zd_0 E (ha (0, 0, 2) (by decide)).1 _) rfl (zmi inU_0) 0 (by decide) (zm flRX1_39) rfl (v := .ref (E.1 (a + 1))) (rfl) dX1_untried_76 ?_
      refine lv_iconst (v := (0 : Int32)) hx hb dX1_untried_79 (by decide) ?_
      refine z_iald C0 hP (k := (a + 1)) (i := 0) (v := (G (a + 1) 0)) (ha (1, 11, 4) (by decide)).1 (Nat.lt_of_lt_of_eq (show 0 < 4 by decide) (ha (1, 11, 4) (by decide)).2.symm) rfl dX1_untried_80 (rfl) ?_
      refine lv_isub hx hb dX1_untried_81 ?_
      refine lv_iload hx hb dX1_untried_82 (lv_at hl 0 rfl) ?_
      refine lv_isub hx hb dX1_untried_84 ?_
      refine lv_imul hx hb dX1_untried_85 ?_
      subst hQ_
      exact z_iret C0 hP hS (v := ((G (c + 3) i) * (((20 : Int32) - (G (a + 1) 0)) - (G (c + 2) i)))) (by refine ⟨?_, rfl⟩; simp [s_plain, hsw_21]) dX1_untried_86
    · skip
      have hsw_21 : (G (c + 1) i) = (2 : Int32) := z_swi hsw (by decide)
      refine lv_tableIn (tgt := 87) (off := 66) hx hb dX1_untried_21 (by rw [hsw_21]; decide) (by rw [hsw_21]; decide) (by rw [hsw_21]; rfl) (by decide) ?_
      refine lv_iload_n hx hb dX1_untried_87 rfl (lv_at hl 1 rfl) ?_
      refine lv_bipush (v := (20 : Int32)) hx hb dX1_untried_88 (by decide) ?_
      refine lv_aload_n hx hb dX1_untried_90 rfl (lv_at hl 4 rfl) ?_
      refine z_get C0 hP (C := RX0) (T := TX0) (N := 2) (ci := 0) (index := 39) (k := a) (ref := "WetSuitPedalsShoes$Athlete") (zk_lt (ha (0, 0, 2) (by decide)).1 (by decide)) (zd_0 E (ha (0, 0, 2) (by decide)).1 _) rfl (zmi inU_0) 0 (by decide) (zm flRX1_39) rfl (v := .ref (E.1 (a + 1))) (rfl) dX1_untried_91 ?_
      refine lv_iconst (v := (1 : Int32)) hx hb dX1_untried_94 (by decide) ?_
      refine z_iald C0 hP (k := (a + 1)) (i := 1) (v := (G (a + 1) 1)) (ha (1, 11, 4) (by decide)).1 (Nat.lt_of_lt_of_eq (show 1 < 4 by decide) (ha (1, 11, 4) (by decide)).2.symm) rfl dX1_untried_95 (rfl) ?_
      refine lv_isub hx hb dX1_untried_96 ?_
      refine lv_imul hx hb dX1_untried_97 ?_
      subst hQ_
      exact z_iret C0 hP hS (v := ((G (c + 3) i) * ((20 : Int32) - (G (a + 1) 1)))) (by refine ⟨?_, rfl⟩; simp [s_plain, hsw_21]) dX1_untried_98
    · skip
      have hsw_21 : (G (c + 1) i) = (3 : Int32) := z_swi hsw (by decide)
      refine lv_tableIn (tgt := 99) (off := 78) hx hb dX1_untried_21 (by rw [hsw_21]; decide) (by rw [hsw_21]; decide) (by rw [hsw_21]; rfl) (by decide) ?_
      refine lv_iload_n hx hb dX1_untried_99 rfl (lv_at hl 1 rfl) ?_
      refine lv_bipush (v := (20 : Int32)) hx hb dX1_untried_100 (by decide) ?_
      refine lv_aload_n hx hb dX1_untried_102 rfl (lv_at hl 4 rfl) ?_
      refine z_get C0 hP (C := RX0) (T := TX0) (N := 2) (ci := 0) (index := 39) (k := a) (ref := "WetSuitPedalsShoes$Athlete") (zk_lt (ha (0, 0, 2) (by decide)).1 (by decide)) (zd_0 E (ha (0, 0, 2) (by decide)).1 _) rfl (zmi inU_0) 0 (by decide) (zm flRX1_39) rfl (v := .ref (E.1 (a + 1))) (rfl) dX1_untried_103 ?_
      refine lv_iconst (v := (1 : Int32)) hx hb dX1_untried_106 (by decide) ?_
      refine z_iald C0 hP (k := (a + 1)) (i := 1) (v := (G (a + 1) 1)) (ha (1, 11, 4) (by decide)).1 (Nat.lt_of_lt_of_eq (show 1 < 4 by decide) (ha (1, 11, 4) (by decide)).2.symm) rfl dX1_untried_107 (rfl) ?_
      refine lv_isub hx hb dX1_untried_108 ?_
      refine lv_iload hx hb dX1_untried_109 (lv_at hl 0 rfl) ?_
      refine lv_iadd hx hb dX1_untried_111 ?_
      refine lv_imul hx hb dX1_untried_112 ?_
      subst hQ_
      exact z_iret C0 hP hS (v := ((G (c + 3) i) * (((20 : Int32) - (G (a + 1) 1)) + (G (c + 2) i)))) (by refine ⟨?_, rfl⟩; simp [s_plain, hsw_21]) dX1_untried_113
    · skip
      have hsw_21 : (G (c + 1) i) = (4 : Int32) := z_swi hsw (by decide)
      refine lv_tableIn (tgt := 114) (off := 93) hx hb dX1_untried_21 (by rw [hsw_21]; decide) (by rw [hsw_21]; decide) (by rw [hsw_21]; rfl) (by decide) ?_
      refine lv_iload_n hx hb dX1_untried_114 rfl (lv_at hl 1 rfl) ?_
      refine lv_bipush (v := (20 : Int32)) hx hb dX1_untried_115 (by decide) ?_
      refine lv_aload_n hx hb dX1_untried_117 rfl (lv_at hl 4 rfl) ?_
      refine z_get C0 hP (C := RX0) (T := TX0) (N := 2) (ci := 0) (index := 39) (k := a) (ref := "WetSuitPedalsShoes$Athlete") (zk_lt (ha (0, 0, 2) (by decide)).1 (by decide)) (zd_0 E (ha (0, 0, 2) (by decide)).1 _) rfl (zmi inU_0) 0 (by decide) (zm flRX1_39) rfl (v := .ref (E.1 (a + 1))) (rfl) dX1_untried_118 ?_
      refine lv_iconst (v := (1 : Int32)) hx hb dX1_untried_121 (by decide) ?_
      refine z_iald C0 hP (k := (a + 1)) (i := 1) (v := (G (a + 1) 1)) (ha (1, 11, 4) (by decide)).1 (Nat.lt_of_lt_of_eq (show 1 < 4 by decide) (ha (1, 11, 4) (by decide)).2.symm) rfl dX1_untried_122 (rfl) ?_
      refine lv_isub hx hb dX1_untried_123 ?_
      refine lv_iload hx hb dX1_untried_124 (lv_at hl 0 rfl) ?_
      refine lv_iconst (v := (2 : Int32)) hx hb dX1_untried_126 (by decide) ?_
      refine lv_idiv hx hb dX1_untried_127 (by decide) ?_
      refine lv_iadd hx hb dX1_untried_128 ?_
      refine lv_imul hx hb dX1_untried_129 ?_
      subst hQ_
      exact z_iret C0 hP hS (v := ((G (c + 3) i) * (((20 : Int32) - (G (a + 1) 1)) + ((G (c + 2) i) / (2 : Int32))))) (by refine ⟨?_, rfl⟩; simp [s_plain, hsw_21]) dX1_untried_130
    · skip
      have hsw_21 : (G (c + 1) i) = (5 : Int32) := z_swi hsw (by decide)
      refine lv_tableIn (tgt := 131) (off := 110) hx hb dX1_untried_21 (by rw [hsw_21]; decide) (by rw [hsw_21]; decide) (by rw [hsw_21]; rfl) (by decide) ?_
      refine lv_aload_n hx hb dX1_untried_131 rfl (lv_at hl 2 rfl) ?_
      refine lv_iload_n hx hb dX1_untried_132 rfl (lv_at hl 3 rfl) ?_
      refine z_Vi C0 hP hD hA hS (As := [.int (nI i)]) (rest := []) (k := c) (c_X1_isBehindRide l E _ c i hc (by omega)) (cwV 1 hts (zgV zbw mlRX1_44 imX1_isBehindRide seX1_isBehindRide iniRX1 coX1_isBehindRide) rfl rfl rfl (by decide +kernel) ⟨Nat.le_of_ble_eq_true rfl, Nat.le_of_ble_eq_true rfl⟩) (zk_lt (hc (0, 1, 4) (by decide)).1 (by decide)) (zd_1 E (hc (0, 1, 4) (by decide)).1 _) rfl rfl rfl hl.1 rfl (Nat.le_of_ble_eq_true rfl) dX1_untried_133 ⟨Nat.zero_le _, Nat.zero_le _⟩ (fun r1 G1 H locs hw1 hP hS => ?_)
      obtain ⟨hr1, rfl⟩ := hw1
      subst hr1
      refine lv_if_eq (tgt := 146) hx hb dX1_untried_136 (by decide) (fun c_136 => ?_) (fun c_136 => ?_)
      · skip
        have e_136 := s_if0 c_136
        refine lv_iconst (v := (0 : Int32)) hx hb dX1_untried_146 (by decide) ?_
        refine lv_istore (lv' := [(5, .int (0 : Int32)), (4, .int (G (c + 2) i)), (3, .int (G (c + 3) i)), (0, .ref (E.1 c)), (1, .int (nI i)), (2, .ref (E.1 a))]) hx hb dX1_untried_147 hl (by decide) rfl (fun ls hl => ?_)
        refine lv_iload_n hx hb dX1_untried_149 rfl (lv_at hl 2 rfl) ?_
        refine lv_bipush (v := (22 : Int32)) hx hb dX1_untried_150 (by decide) ?_
        refine lv_aload_n hx hb dX1_untried_152 rfl (lv_at hl 5 rfl) ?_
        refine z_get C0 hP (C := RX0) (T := TX0) (N := 2) (ci := 0) (index := 39) (k := a) (ref := "WetSuitPedalsShoes$Athlete") (zk_lt (ha (0, 0, 2) (by decide)).1 (by decide)) (zd_0 E (ha (0, 0, 2) (by decide)).1 _) rfl (zmi inU_0) 0 (by decide) (zm flRX1_39) rfl (v := .ref (E.1 (a + 1))) (rfl) dX1_untried_153 ?_
        refine lv_iconst (v := (2 : Int32)) hx hb dX1_untried_156 (by decide) ?_
        refine z_iald C0 hP (k := (a + 1)) (i := 2) (v := (G (a + 1) 2)) (ha (1, 11, 4) (by decide)).1 (Nat.lt_of_lt_of_eq (show 2 < 4 by decide) (ha (1, 11, 4) (by decide)).2.symm) rfl dX1_untried_157 (rfl) ?_
        refine lv_isub hx hb dX1_untried_158 ?_
        refine lv_imul hx hb dX1_untried_159 ?_
        refine lv_iload hx hb dX1_untried_160 (lv_at hl 0 rfl) ?_
        refine lv_iadd hx hb dX1_untried_162 ?_
        subst hQ_
        exact z_iret C0 hP hS (v := (((G (c + 3) i) * ((22 : Int32) - (G (a + 1) 2))) + (0 : Int32))) (by refine ⟨?_, rfl⟩; simp [s_plain, hsw_21, c_136, e_136]) dX1_untried_163
      · skip
        have e_136 := s_if1 c_136
        refine lv_iload_n hx hb dX1_untried_139 rfl (lv_at hl 1 rfl) ?_
        refine lv_iload hx hb dX1_untried_140 (lv_at hl 0 rfl) ?_
        refine lv_iadd hx hb dX1_untried_142 ?_
        refine lv_goto (tgt := 147) hx hb dX1_untried_143 (by decide) ?_
        refine lv_istore (lv' := [(5, .int ((G (c + 3) i) + (G (c + 2) i))), (4, .int (G (c + 2) i)), (3, .int (G (c + 3) i)), (0, .ref (E.1 c)), (1, .int (nI i)), (2, .ref (E.1 a))]) hx hb dX1_untried_147 hl (by decide) rfl (fun ls hl => ?_)
        refine lv_iload_n hx hb dX1_untried_149 rfl (lv_at hl 2 rfl) ?_
        refine lv_bipush (v := (22 : Int32)) hx hb dX1_untried_150 (by decide) ?_
        refine lv_aload_n hx hb dX1_untried_152 rfl (lv_at hl 5 rfl) ?_
        refine z_get C0 hP (C := RX0) (T := TX0) (N := 2) (ci := 0) (index := 39) (k := a) (ref := "WetSuitPedalsShoes$Athlete") (zk_lt (ha (0, 0, 2) (by decide)).1 (by decide)) (zd_0 E (ha (0, 0, 2) (by decide)).1 _) rfl (zmi inU_0) 0 (by decide) (zm flRX1_39) rfl (v := .ref (E.1 (a + 1))) (rfl) dX1_untried_153 ?_
        refine lv_iconst (v := (2 : Int32)) hx hb dX1_untried_156 (by decide) ?_
        refine z_iald C0 hP (k := (a + 1)) (i := 2) (v := (G (a + 1) 2)) (ha (1, 11, 4) (by decide)).1 (Nat.lt_of_lt_of_eq (show 2 < 4 by decide) (ha (1, 11, 4) (by decide)).2.symm) rfl dX1_untried_157 (rfl) ?_
        refine lv_isub hx hb dX1_untried_158 ?_
        refine lv_imul hx hb dX1_untried_159 ?_
        refine lv_iload hx hb dX1_untried_160 (lv_at hl 0 rfl) ?_
        refine lv_iadd hx hb dX1_untried_162 ?_
        subst hQ_
        exact z_iret C0 hP hS (v := (((G (c + 3) i) * ((22 : Int32) - (G (a + 1) 2))) + ((G (c + 3) i) + (G (c + 2) i)))) (by refine ⟨?_, rfl⟩; simp [s_plain, hsw_21, c_136, e_136]) dX1_untried_163
