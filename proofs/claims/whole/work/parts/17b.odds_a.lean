/-! laid by wip/whole/vcg.py -/
set_option maxHeartbeats 4000000 in
set_option maxRecDepth 100000 in
theorem c_X6_power (l : Launch) (E : zE) (G : zG) (x : Int64) (k : Nat) (hk : k ≤ 20) : zMl l yX6_power wsX6_power ({ frames := 0, cells := 0, slots := 0, locals := 0 } : Room) E G [.long x, .int (nI k)] (fun r1 G1 => l_pow x k = r1 ∧ G = G1) := by
  refine zOf (cc := cX6_power) (nL := 6) (ret := (some .long)) RX6 (by decide) rfl rfl (Nat.le_of_ble_eq_true rfl) ?_
  intro p_ e_ s_ m_ a_ b_ me_ c_ ls C0 hP hS hl
  have hx := C0.1
  have hb := C0.2.1
  have hts := C0.2.2.2.2.1
  have hD : zD E (zA E s_.heap.size) := C0.2.2.2.2.2.2.2.2
  have hA : ∀ q : Nat, s_.heap.size ≤ q → zA E s_.heap.size q := fun q h => Or.inr h
  refine z_gen (fun Q_ hQ_ => ?_)
  have hl : lv_has ls 6 [(0, .long x), (2, .int (nI k))] := hl
  refine lv_lconst (v := (1 : Int64)) hx hb dX6_power_0 (by decide) ?_
  refine lv_lstore_n (lv' := [(3, .long (1 : Int64)), (0, .long x), (2, .int (nI k))]) hx hb dX6_power_1 rfl hl (by decide) rfl (fun ls hl => ?_)
  refine lv_iconst (v := (0 : Int32)) hx hb dX6_power_2 (by decide) ?_
  refine lv_istore (lv' := [(5, .int (0 : Int32)), (3, .long (1 : Int64)), (0, .long x), (2, .int (nI k))]) hx hb dX6_power_3 hl (by decide) rfl (fun ls hl => ?_)
  have cut_5 : ∀ (fuel : Nat), ∀ (i : Nat) (y : Int64) (H : Heap) (locs : List Loc) (ls : Array Slot), (i ≤ k) → (y = l_pow x i) → zP E G H → va_S (zA E s_.heap.size) s_.heap H locs → lv_has ls 6 [(0, .long x), (2, .int (nI k)), (3, .long y), (5, .int (nI i))] → k - i < fuel → W p_ l e_ ({ frames := 0, cells := 0, slots := 0, locals := 0 } : Room) s_ m_ a_ b_ me_ c_ H locs 0 0 Q_ (F0 m_ 5 ls []) := by
    intro fuel
    induction fuel with
    | zero =>
      intro i  y  H locs ls hi hy hP hS hl hfu
      exact absurd hfu (Nat.not_lt_zero _)
    | succ fuel ih_5 =>
      intro i  y  H locs ls hi hy hP hS hl hfu_5
      refine lv_iload hx hb dX6_power_5 (lv_at hl 3 rfl) ?_
      refine lv_iload_n hx hb dX6_power_7 rfl (lv_at hl 1 rfl) ?_
      refine z_N_ge hx hb (a := i) (b := k) (tgt := 21) dX6_power_8 rfl rfl (by omega) (by omega) (by decide) (fun c_8 => ?_) (fun c_8 => ?_)
      · skip
        refine lv_lload_n hx hb dX6_power_21 rfl (lv_at hl 2 rfl) ?_
        subst hQ_
        exact z_lret C0 hP hS (v := y) (by refine ⟨?_, rfl⟩; rw [hy, show i = k by omega]) dX6_power_22
      · skip
        refine lv_lload_n hx hb dX6_power_11 rfl (lv_at hl 2 rfl) ?_
        refine lv_lload_n hx hb dX6_power_12 rfl (lv_at hl 0 rfl) ?_
        refine lv_lmul hx hb dX6_power_13 ?_
        refine lv_lstore_n (lv' := [(3, .long (y * x)), (0, .long x), (2, .int (nI k)), (5, .int (nI i))]) hx hb dX6_power_14 rfl hl (by decide) rfl (fun ls hl => ?_)
        refine lv_iinc (v := (nI (i + 1))) (lv' := [(5, .int (nI (i + 1))), (3, .long (y * x)), (0, .long x), (2, .int (nI k))]) hx hb dX6_power_15 hl (k := 3) rfl (z_inc (by decide)) (by decide) rfl (fun ls hl => ?_)
        refine lv_goto (tgt := 5) hx hb dX6_power_18 (by decide) ?_
        exact ih_5 (i + 1) (y * x) _ _ _ (by first | assumption | omega) (by rw [hy]; rfl) hP hS (lv_sub hl [2, 3, 1, 0] rfl) (by omega)
  exact cut_5 (_ + 1) 0 (1 : Int64) _ _ _ (by first | assumption | omega) (by rfl) hP hS (lv_sub hl [2, 3, 1, 0] rfl) (Nat.lt_succ_self _)
theorem mlRX6_7 : Cond.methodLink RX6 7 yX6_power ∈ zU := zU_m 673 (by decide +kernel) rfl
theorem coX6_power : Cond.code yX6_power cX6_power 6 (some .long) ∈ zU := zU_m 675 (by decide +kernel) rfl
theorem stX6_power : Cond.static yX6_power ∈ zU := zU_m 674 (by decide +kernel) rfl
theorem iniRX6 : Cond.initialized RX6 ∈ zU := zU_m 62 (by decide +kernel) rfl
set_option maxHeartbeats 4000000 in
set_option maxRecDepth 100000 in
theorem c_X6_waysWithin (l : Launch) (E : zE) (G : zG) (n t u v f : Nat) (hn : n ≤ 10) (ht : 2 ≤ t ∧ t ≤ 20) (hu : u ≤ 99) (hv : v ≤ 999) (hf : f ≤ 4000) : zMl l yX6_waysWithin wsX6_waysWithin ({ frames := 1, cells := 0, slots := 0, locals := 25 } : Room) E G [.int (nI n), .int (nI t), .int (nI u), .int ((nI v) - (nI f))] (fun r1 G1 => lN (o_ways n t u v f) = r1 ∧ G = G1) := by
  refine zOf (cc := cX6_waysWithin) (nL := 9) (ret := (some .long)) RX6 (by decide) rfl rfl (Nat.le_of_ble_eq_true rfl) ?_
  intro p_ e_ s_ m_ a_ b_ me_ c_ ls C0 hP hS hl
  have hx := C0.1
  have hb := C0.2.1
  have hts := C0.2.2.2.2.1
  have hD : zD E (zA E s_.heap.size) := C0.2.2.2.2.2.2.2.2
  have hA : ∀ q : Nat, s_.heap.size ≤ q → zA E s_.heap.size q := fun q h => Or.inr h
  refine z_gen (fun Q_ hQ_ => ?_)
  have hl : lv_has ls 9 [(0, .int (nI n)), (1, .int (nI t)), (2, .int (nI u)), (3, .int ((nI v) - (nI f)))] := hl
  refine lv_lconst (v := (0 : Int64)) hx hb dX6_waysWithin_0 (by decide) ?_
  refine lv_lstore (lv' := [(4, .long (0 : Int64)), (0, .int (nI n)), (1, .int (nI t)), (2, .int (nI u)), (3, .int ((nI v) - (nI f)))]) hx hb dX6_waysWithin_1 hl (by decide) rfl (fun ls hl => ?_)
  refine lv_lconst (v := (1 : Int64)) hx hb dX6_waysWithin_3 (by decide) ?_
  refine lv_lstore (lv' := [(6, .long (1 : Int64)), (4, .long (0 : Int64)), (0, .int (nI n)), (1, .int (nI t)), (2, .int (nI u)), (3, .int ((nI v) - (nI f)))]) hx hb dX6_waysWithin_4 hl (by decide) rfl (fun ls hl => ?_)
  refine lv_iconst (v := (0 : Int32)) hx hb dX6_waysWithin_6 (by decide) ?_
  refine lv_istore (lv' := [(8, .int (0 : Int32)), (6, .long (1 : Int64)), (4, .long (0 : Int64)), (0, .int (nI n)), (1, .int (nI t)), (2, .int (nI u)), (3, .int ((nI v) - (nI f)))]) hx hb dX6_waysWithin_7 hl (by decide) rfl (fun ls hl => ?_)
  have cut_9 : ∀ (fuel : Nat), ∀ (p : Nat) (wy ch : Int64) (H : Heap) (locs : List Loc) (ls : Array Slot), (p ≤ n + 1) → (wy = lN (o_s n t u v f p)) → (ch = lN (chs n p)) → zP E G H → va_S (zA E s_.heap.size) s_.heap H locs → lv_has ls 9 [(0, .int (nI n)), (1, .int (nI t)), (2, .int (nI u)), (3, .int ((nI v) - (nI f))), (4, .long wy), (6, .long ch), (8, .int (nI p))] → n + 1 - p < fuel → W p_ l e_ ({ frames := 1, cells := 0, slots := 0, locals := 25 } : Room) s_ m_ a_ b_ me_ c_ H locs 0 0 Q_ (F0 m_ 9 ls []) := by
    intro fuel
    induction fuel with
    | zero =>
      intro p  wy ch  H locs ls hp hw hc hP hS hl hfu
      exact absurd hfu (Nat.not_lt_zero _)
    | succ fuel ih_9 =>
      intro p  wy ch  H locs ls hp hw hc hP hS hl hfu_9
      refine lv_iload hx hb dX6_waysWithin_9 (lv_at hl 6 rfl) ?_
      refine lv_iload_n hx hb dX6_waysWithin_11 rfl (lv_at hl 0 rfl) ?_
      refine z_N_gt hx hb (a := p) (b := n) (tgt := 64) dX6_waysWithin_12 rfl rfl (by omega) (by omega) (by decide) (fun c_12 => ?_) (fun c_12 => ?_)
      · skip
        refine lv_lload hx hb dX6_waysWithin_64 (lv_at hl 4 rfl) ?_
        subst hQ_
        exact z_lret C0 hP hS (v := wy) (by refine ⟨?_, rfl⟩; rw [hw, show p = n + 1 by omega]; rfl) dX6_waysWithin_66
      · skip
        have hpu : p * u < 2 ^ 30 := Nat.lt_of_le_of_lt (Nat.mul_le_mul (show p ≤ 10 by omega) hu) (by decide)
        refine lv_iload hx hb dX6_waysWithin_15 (lv_at hl 6 rfl) ?_
        refine lv_iload_n hx hb dX6_waysWithin_17 rfl (lv_at hl 2 rfl) ?_
        refine z_imul hx hb (a := p) (b := u) (n := p * u) dX6_waysWithin_18 rfl rfl rfl ?_
        refine lv_iload_n hx hb dX6_waysWithin_19 rfl (lv_at hl 3 rfl) ?_
        refine lv_icmp_gt (tgt := 42) hx hb dX6_waysWithin_20 (by decide) (fun c_20 => ?_) (fun c_20 => ?_)
        · skip
          have hb9 := (z_spare hpu (show v < 2 ^ 30 by omega) (show f < 2 ^ 30 by omega)).mp c_20
          refine lv_lload hx hb dX6_waysWithin_42 (lv_at hl 5 rfl) ?_
          refine lv_iload_n hx hb dX6_waysWithin_44 rfl (lv_at hl 0 rfl) ?_
          refine lv_iload hx hb dX6_waysWithin_45 (lv_at hl 6 rfl) ?_
          refine z_isub hx hb (a := n) (b := p) (n := n - p) dX6_waysWithin_47 rfl rfl (by omega) (by omega) ?_
          refine lv_i2l (v := (lN (n - p))) hx hb dX6_waysWithin_48 (nI_l (by omega)) ?_
          refine lv_lmul hx hb dX6_waysWithin_49 ?_
          refine lv_iload hx hb dX6_waysWithin_50 (lv_at hl 6 rfl) ?_
          refine lv_iconst (v := (1 : Int32)) hx hb dX6_waysWithin_52 (by decide) ?_
          refine z_iadd hx hb (a := p) (b := 1) (n := p + 1) dX6_waysWithin_53 rfl rfl rfl ?_
          refine lv_i2l (v := (lN (p + 1))) hx hb dX6_waysWithin_54 (nI_l (by omega)) ?_
          refine lv_ldiv hx hb dX6_waysWithin_55 (lN_nz (k := p + 1) (by omega) (by omega)) ?_
          rw [show ((ch * (lN (n - p))) / (lN (p + 1))) = (lN (chs n (p + 1))) from o_ch hn (by omega) hc]
          refine lv_lstore (lv' := [(6, .long (lN (chs n (p + 1)))), (0, .int (nI n)), (1, .int (nI t)), (2, .int (nI u)), (3, .int ((nI v) - (nI f))), (4, .long wy), (8, .int (nI p))]) hx hb dX6_waysWithin_56 hl (by decide) rfl (fun ls hl => ?_)
          refine lv_iinc (v := (nI (p + 1))) (lv' := [(8, .int (nI (p + 1))), (6, .long (lN (chs n (p + 1)))), (0, .int (nI n)), (1, .int (nI t)), (2, .int (nI u)), (3, .int ((nI v) - (nI f))), (4, .long wy)]) hx hb dX6_waysWithin_58 hl (k := 6) rfl (z_inc (by decide)) (by decide) rfl (fun ls hl => ?_)
          refine lv_goto (tgt := 9) hx hb dX6_waysWithin_61 (by decide) ?_
          exact ih_9 (p + 1) wy (lN (chs n (p + 1))) _ _ _ (by first | assumption | omega) (by exact o_s_n hb9 hw) (by rfl) hP hS (lv_sub hl [2, 3, 4, 5, 6, 1, 0] rfl) (by omega)
        · skip
          have hb9 : f + p * u ≤ v := Classical.not_not.mp (fun q => c_20 ((z_spare hpu (show v < 2 ^ 30 by omega) (show f < 2 ^ 30 by omega)).mpr q))
          refine lv_lload hx hb dX6_waysWithin_23 (lv_at hl 4 rfl) ?_
          refine lv_lload hx hb dX6_waysWithin_25 (lv_at hl 5 rfl) ?_
          refine lv_iload_n hx hb dX6_waysWithin_27 rfl (lv_at hl 1 rfl) ?_
          refine lv_iconst (v := (1 : Int32)) hx hb dX6_waysWithin_28 (by decide) ?_
          refine z_isub hx hb (a := t) (b := 1) (n := t - 1) dX6_waysWithin_29 rfl rfl (by omega) (by omega) ?_
          refine lv_i2l (v := (lN (t - 1))) hx hb dX6_waysWithin_30 (nI_l (by omega)) ?_
          refine lv_iload_n hx hb dX6_waysWithin_31 rfl (lv_at hl 0 rfl) ?_
          refine lv_iload hx hb dX6_waysWithin_32 (lv_at hl 6 rfl) ?_
          refine z_isub hx hb (a := n) (b := p) (n := n - p) dX6_waysWithin_34 rfl rfl (by omega) (by omega) ?_
          refine z_Sl C0 hP hD hA hS (As := [.long (lN (t - 1)), .int (nI (n - p))]) (rest := [.long ch, .long wy]) (c_X6_power l E _ (lN (t - 1)) (n - p) (by omega)) (va_cwS 2 hts (zgS zbw mlRX6_7 stX6_power iniRX6 coX6_power) rfl rfl rfl (by decide +kernel) ⟨Nat.le_of_ble_eq_true rfl, Nat.le_of_ble_eq_true rfl⟩) rfl hl.1 rfl (Nat.le_of_ble_eq_true rfl) dX6_waysWithin_35 ⟨Nat.zero_le _, Nat.zero_le _⟩ (fun r1 G1 H locs hw1 hP hS => ?_)
          obtain ⟨hr1, rfl⟩ := hw1
          subst hr1
          refine lv_lmul hx hb dX6_waysWithin_38 ?_
          refine lv_ladd hx hb dX6_waysWithin_39 ?_
          refine lv_lstore (lv' := [(4, .long (wy + (ch * (l_pow (lN (t - 1)) (n - p))))), (0, .int (nI n)), (1, .int (nI t)), (2, .int (nI u)), (3, .int ((nI v) - (nI f))), (6, .long ch), (8, .int (nI p))]) hx hb dX6_waysWithin_40 hl (by decide) rfl (fun ls hl => ?_)
          refine lv_lload hx hb dX6_waysWithin_42 (lv_at hl 5 rfl) ?_
          refine lv_iload_n hx hb dX6_waysWithin_44 rfl (lv_at hl 1 rfl) ?_
          refine lv_iload hx hb dX6_waysWithin_45 (lv_at hl 6 rfl) ?_
          refine z_isub hx hb (a := n) (b := p) (n := n - p) dX6_waysWithin_47 rfl rfl (by omega) (by omega) ?_
          refine lv_i2l (v := (lN (n - p))) hx hb dX6_waysWithin_48 (nI_l (by omega)) ?_
          refine lv_lmul hx hb dX6_waysWithin_49 ?_
          refine lv_iload hx hb dX6_waysWithin_50 (lv_at hl 6 rfl) ?_
          refine lv_iconst (v := (1 : Int32)) hx hb dX6_waysWithin_52 (by decide) ?_
          refine z_iadd hx hb (a := p) (b := 1) (n := p + 1) dX6_waysWithin_53 rfl rfl rfl ?_
          refine lv_i2l (v := (lN (p + 1))) hx hb dX6_waysWithin_54 (nI_l (by omega)) ?_
          refine lv_ldiv hx hb dX6_waysWithin_55 (lN_nz (k := p + 1) (by omega) (by omega)) ?_
          rw [show ((ch * (lN (n - p))) / (lN (p + 1))) = (lN (chs n (p + 1))) from o_ch hn (by omega) hc]
          refine lv_lstore (lv' := [(6, .long (lN (chs n (p + 1)))), (4, .long (wy + (ch * (l_pow (lN (t - 1)) (n - p))))), (0, .int (nI n)), (1, .int (nI t)), (2, .int (nI u)), (3, .int ((nI v) - (nI f))), (8, .int (nI p))]) hx hb dX6_waysWithin_56 hl (by decide) rfl (fun ls hl => ?_)
          refine lv_iinc (v := (nI (p + 1))) (lv' := [(8, .int (nI (p + 1))), (6, .long (lN (chs n (p + 1)))), (4, .long (wy + (ch * (l_pow (lN (t - 1)) (n - p))))), (0, .int (nI n)), (1, .int (nI t)), (2, .int (nI u)), (3, .int ((nI v) - (nI f)))]) hx hb dX6_waysWithin_58 hl (k := 6) rfl (z_inc (by decide)) (by decide) rfl (fun ls hl => ?_)
          refine lv_goto (tgt := 9) hx hb dX6_waysWithin_61 (by decide) ?_
          exact ih_9 (p + 1) (wy + (ch * (l_pow (lN (t - 1)) (n - p)))) (lN (chs n (p + 1))) _ _ _ (by first | assumption | omega) (by exact o_s_y hb9 hw hc) (by rfl) hP hS (lv_sub hl [3, 4, 5, 6, 2, 1, 0] rfl) (by omega)
  exact cut_9 (_ + 1) 0 (0 : Int64) (1 : Int64) _ _ _ (by first | assumption | omega) (by rfl) (by exact (congrArg lN (chs_0 n)).symm) hP hS (lv_sub hl [3, 4, 5, 6, 2, 1, 0] rfl) (Nat.lt_succ_self _)
set_option maxHeartbeats 4000000 in
set_option maxRecDepth 100000 in
theorem c_X6_commonDivisor (l : Launch) (E : zE) (G : zG) (a b : Nat) (ha : a < 2 ^ 63) (hb0 : 0 < b) (hb2 : b < 2 ^ 44) : zMl l yX6_commonDivisor wsX6_commonDivisor ({ frames := 0, cells := 0, slots := 0, locals := 0 } : Room) E G [.long (lN a), .long (lN b)] (fun r1 G1 => lN (Nat.gcd a b) = r1 ∧ G = G1) := by
  refine zOf (cc := cX6_commonDivisor) (nL := 11) (ret := (some .long)) RX6 (by decide) rfl rfl (Nat.le_of_ble_eq_true rfl) ?_
  intro p_ e_ s_ m_ a_ b_ me_ c_ ls C0 hP hS hl
  have hx := C0.1
  have hb := C0.2.1
  have hts := C0.2.2.2.2.1
  have hD : zD E (zA E s_.heap.size) := C0.2.2.2.2.2.2.2.2
  have hA : ∀ q : Nat, s_.heap.size ≤ q → zA E s_.heap.size q := fun q h => Or.inr h
  refine z_gen (fun Q_ hQ_ => ?_)
  have hl : lv_has ls 11 [(0, .long (lN a)), (2, .long (lN b))] := hl
  refine lv_lload_n hx hb dX6_commonDivisor_0 rfl (lv_at hl 0 rfl) ?_
  refine lv_lstore (lv' := [(4, .long (lN a)), (0, .long (lN a)), (2, .long (lN b))]) hx hb dX6_commonDivisor_1 hl (by decide) rfl (fun ls hl => ?_)
  refine lv_lload_n hx hb dX6_commonDivisor_3 rfl (lv_at hl 2 rfl) ?_
  refine lv_lstore (lv' := [(6, .long (lN b)), (4, .long (lN a)), (0, .long (lN a)), (2, .long (lN b))]) hx hb dX6_commonDivisor_4 hl (by decide) rfl (fun ls hl => ?_)
  refine lv_iconst (v := (0 : Int32)) hx hb dX6_commonDivisor_6 (by decide) ?_
  refine lv_istore (lv' := [(8, .int (0 : Int32)), (6, .long (lN b)), (4, .long (lN a)), (0, .long (lN a)), (2, .long (lN b))]) hx hb dX6_commonDivisor_7 hl (by decide) rfl (fun ls hl => ?_)
  have cut_9 : ∀ (fuel : Nat), ∀ (x y s : Nat) (H : Heap) (locs : List Loc) (ls : Array Slot), (g_in a b s x y) → zP E G H → va_S (zA E s_.heap.size) s_.heap H locs → lv_has ls 11 [(0, .long (lN a)), (2, .long (lN b)), (4, .long (lN x)), (6, .long (lN y)), (8, .int (nI s))] → 200 - s < fuel → W p_ l e_ ({ frames := 0, cells := 0, slots := 0, locals := 0 } : Room) s_ m_ a_ b_ me_ c_ H locs 0 0 Q_ (F0 m_ 9 ls []) := by
    intro fuel
    induction fuel with
    | zero =>
      intro x y s  H locs ls hg hP hS hl hfu
      exact absurd hfu (Nat.not_lt_zero _)
    | succ fuel ih_9 =>
      intro x y s  H locs ls hg hP hS hl hfu_9
      have hs9 := g_in_s hg
      refine lv_iload hx hb dX6_commonDivisor_9 (lv_at hl 4 rfl) ?_
      refine lv_sipush (v := (200 : Int32)) hx hb dX6_commonDivisor_11 (by decide) ?_
      refine z_N_ge hx hb (a := s) (b := 200) (tgt := 45) dX6_commonDivisor_14 rfl rfl (by omega) (by omega) (by decide) (fun c_14 => ?_) (fun c_14 => ?_)
      · exact absurd c_14 (by omega)
      · skip
        refine lv_lload hx hb dX6_commonDivisor_17 (lv_at hl 3 rfl) ?_
        refine lv_lconst (v := (0 : Int64)) hx hb dX6_commonDivisor_19 (by decide) ?_
        refine W.lcmp hx hb dX6_commonDivisor_20 ?_
        refine lv_if_eq (tgt := 45) hx hb dX6_commonDivisor_21 (by decide) (fun c_21 => ?_) (fun c_21 => ?_)
        · skip
          have hy0 := (lg_z hg.2.2.1).mp c_21
          refine lv_lload hx hb dX6_commonDivisor_45 (lv_at hl 2 rfl) ?_
          subst hQ_
          exact z_lret C0 hP hS (v := (lN x)) (by refine ⟨?_, rfl⟩; rw [← hg.1, hy0, Nat.gcd_zero_right]) dX6_commonDivisor_47
        · skip
          have hy0 : y ≠ 0 := fun q => c_21 ((lg_z hg.2.2.1).mpr q)
          refine lv_lload hx hb dX6_commonDivisor_24 (lv_at hl 2 rfl) ?_
          refine lv_lload hx hb dX6_commonDivisor_26 (lv_at hl 3 rfl) ?_
          refine lv_lrem hx hb dX6_commonDivisor_28 (lN_nz (by omega) hg.2.2.1) ?_
          rw [show ((lN x) - (lN x) / (lN y) * (lN y)) = (lN (x % y)) from pk_lRem hg.2.1 (by omega) hg.2.2.1]
          refine lv_lstore (lv' := [(9, .long (lN (x % y))), (0, .long (lN a)), (2, .long (lN b)), (4, .long (lN x)), (6, .long (lN y)), (8, .int (nI s))]) hx hb dX6_commonDivisor_29 hl (by decide) rfl (fun ls hl => ?_)
          refine lv_lload hx hb dX6_commonDivisor_31 (lv_at hl 4 rfl) ?_
          refine lv_lstore (lv' := [(4, .long (lN y)), (9, .long (lN (x % y))), (0, .long (lN a)), (2, .long (lN b)), (6, .long (lN y)), (8, .int (nI s))]) hx hb dX6_commonDivisor_33 hl (by decide) rfl (fun ls hl => ?_)
          refine lv_lload hx hb dX6_commonDivisor_35 (lv_at hl 1 rfl) ?_
          refine lv_lstore (lv' := [(6, .long (lN (x % y))), (4, .long (lN y)), (9, .long (lN (x % y))), (0, .long (lN a)), (2, .long (lN b)), (8, .int (nI s))]) hx hb dX6_commonDivisor_37 hl (by decide) rfl (fun ls hl => ?_)
          refine lv_iinc (v := (nI (s + 1))) (lv' := [(8, .int (nI (s + 1))), (6, .long (lN (x % y))), (4, .long (lN y)), (9, .long (lN (x % y))), (0, .long (lN a)), (2, .long (lN b))]) hx hb dX6_commonDivisor_39 hl (k := 5) rfl (z_inc (by decide)) (by decide) rfl (fun ls hl => ?_)
          refine lv_goto (tgt := 9) hx hb dX6_commonDivisor_42 (by decide) ?_
          exact ih_9 y (x % y) (s + 1) _ _ _ (by exact g_in_st hg hy0) hP hS (lv_sub hl [4, 5, 2, 1, 0] rfl) (by omega)
  exact cut_9 (_ + 1) a b 0 _ _ _ (by exact ⟨rfl, ha, by omega, Or.inl ⟨rfl, hb2⟩⟩) hP hS (lv_sub hl [3, 4, 2, 1, 0] rfl) (Nat.lt_succ_self _)
theorem mlRX6_13 : Cond.methodLink RX6 13 yX6_commonDivisor ∈ zU := zU_m 680 (by decide +kernel) rfl
theorem coX6_commonDivisor : Cond.code yX6_commonDivisor cX6_commonDivisor 11 (some .long) ∈ zU := zU_m 682 (by decide +kernel) rfl
theorem stX6_commonDivisor : Cond.static yX6_commonDivisor ∈ zU := zU_m 681 (by decide +kernel) rfl
set_option maxHeartbeats 4000000 in
set_option maxRecDepth 100000 in
theorem c_X6_partInLeastTerms (l : Launch) (E : zE) (G : zG) (a b : Nat) (part : Int32) (ha : a < 2 ^ 63) (hb0 : 0 < b) (hb2 : b < 2 ^ 44) : zMl l yX6_partInLeastTerms wsX6_partInLeastTerms ({ frames := 1, cells := 0, slots := 0, locals := 30 } : Room) E G [.long (lN a), .long (lN b), .int part] (fun r1 G1 => q_part a b part = r1 ∧ G = G1) := by
  refine zOf (cc := cX6_partInLeastTerms) (nL := 7) (ret := (some .long)) RX6 (by decide) rfl rfl (Nat.le_of_ble_eq_true rfl) ?_
  intro p_ e_ s_ m_ a_ b_ me_ c_ ls C0 hP hS hl
  have hx := C0.1
  have hb := C0.2.1
  have hts := C0.2.2.2.2.1
  have hD : zD E (zA E s_.heap.size) := C0.2.2.2.2.2.2.2.2
  have hA : ∀ q : Nat, s_.heap.size ≤ q → zA E s_.heap.size q := fun q h => Or.inr h
  have hq9 := q_part_c (part := part) hb0 ha (show b < 2 ^ 63 by omega) rfl
  refine z_gen (fun Q_ hQ_ => ?_)
  have hl : lv_has ls 7 [(0, .long (lN a)), (2, .long (lN b)), (4, .int part)] := hl
  refine lv_lload_n hx hb dX6_partInLeastTerms_0 rfl (lv_at hl 0 rfl) ?_
  refine lv_lload_n hx hb dX6_partInLeastTerms_1 rfl (lv_at hl 1 rfl) ?_
  refine z_Sl C0 hP hD hA hS (As := [.long (lN a), .long (lN b)]) (rest := []) (c_X6_commonDivisor l E _ a b ha hb0 hb2) (va_cwS 2 hts (zgS zbw mlRX6_13 stX6_commonDivisor iniRX6 coX6_commonDivisor) rfl rfl rfl (by decide +kernel) ⟨Nat.le_of_ble_eq_true rfl, Nat.le_of_ble_eq_true rfl⟩) rfl hl.1 rfl (Nat.le_of_ble_eq_true rfl) dX6_partInLeastTerms_2 ⟨Nat.zero_le _, Nat.zero_le _⟩ (fun r1 G1 H locs hw1 hP hS => ?_)
  obtain ⟨hr1, rfl⟩ := hw1
  subst hr1
  refine lv_lstore (lv' := [(5, .long (lN (Nat.gcd a b))), (0, .long (lN a)), (2, .long (lN b)), (4, .int part)]) hx hb dX6_partInLeastTerms_5 hl (by decide) rfl (fun ls hl => ?_)
  refine lv_lload hx hb dX6_partInLeastTerms_7 (lv_at hl 0 rfl) ?_
  refine lv_lconst (v := (0 : Int64)) hx hb dX6_partInLeastTerms_9 (by decide) ?_
  refine W.lcmp hx hb dX6_partInLeastTerms_10 ?_
  refine lv_if_ne (tgt := 18) hx hb dX6_partInLeastTerms_11 (by decide) (fun c_11 => ?_) (fun c_11 => ?_)
  · skip
    refine lv_iload hx hb dX6_partInLeastTerms_18 (lv_at hl 3 rfl) ?_
    refine lv_if_ne (tgt := 27) hx hb dX6_partInLeastTerms_20 (by decide) (fun c_20 => ?_) (fun c_20 => ?_)
    · skip
      refine lv_lload_n hx hb dX6_partInLeastTerms_27 rfl (lv_at hl 2 rfl) ?_
      refine lv_lload hx hb dX6_partInLeastTerms_28 (lv_at hl 0 rfl) ?_
      refine lv_ldiv hx hb dX6_partInLeastTerms_30 (hq9.1) ?_
      subst hQ_
      exact z_lret C0 hP hS (v := ((lN b) / (lN (Nat.gcd a b)))) (by first | exact ⟨(hq9.2.1 c_20).symm, rfl⟩ | exact ⟨(hq9.2.2 c_20).symm, rfl⟩) dX6_partInLeastTerms_31
    · skip
      refine lv_lload_n hx hb dX6_partInLeastTerms_23 rfl (lv_at hl 1 rfl) ?_
      refine lv_goto (tgt := 28) hx hb dX6_partInLeastTerms_24 (by decide) ?_
      refine lv_lload hx hb dX6_partInLeastTerms_28 (lv_at hl 0 rfl) ?_
      refine lv_ldiv hx hb dX6_partInLeastTerms_30 (hq9.1) ?_
      subst hQ_
      exact z_lret C0 hP hS (v := ((lN a) / (lN (Nat.gcd a b)))) (by first | exact ⟨(hq9.2.1 c_20).symm, rfl⟩ | exact ⟨(hq9.2.2 c_20).symm, rfl⟩) dX6_partInLeastTerms_31
  · exact absurd c_11 (fun q => hq9.1 ((lg_cmp_eq _ _).mp q))
set_option maxHeartbeats 4000000 in
set_option maxRecDepth 100000 in
theorem c_X11_isPart (l : Launch) (E : zE) (G : zG) (part : Int32) : zMi l yX11_isPart wsX11_isPart ({ frames := 0, cells := 0, slots := 0, locals := 0 } : Room) E G [.int part] (fun r1 G1 => (1 = r1 ∧ G = G1 ∧ (part = 0 ∨ part = 1)) ∨ (0 = r1 ∧ G = G1 ∧ z_part part = false)) := by
  refine zOf (cc := cX11_isPart) (nL := 1) (ret := (some .boolean)) RX11 (by decide) rfl rfl (Nat.le_of_ble_eq_true rfl) ?_
  intro p_ e_ s_ m_ a_ b_ me_ c_ ls C0 hP hS hl
  have hx := C0.1
  have hb := C0.2.1
  have hts := C0.2.2.2.2.1
  have hD : zD E (zA E s_.heap.size) := C0.2.2.2.2.2.2.2.2
  have hA : ∀ q : Nat, s_.heap.size ≤ q → zA E s_.heap.size q := fun q h => Or.inr h
  refine z_gen (fun Q_ hQ_ => ?_)
  have hl : lv_has ls 1 [(0, .int part)] := hl
  refine lv_iload_n hx hb dX11_isPart_0 rfl (lv_at hl 0 rfl) ?_
  refine lv_if_eq (tgt := 9) hx hb dX11_isPart_1 (by decide) (fun c_1 => ?_) (fun c_1 => ?_)
  · skip
    refine lv_iconst (v := (1 : Int32)) hx hb dX11_isPart_9 (by decide) ?_
    refine lv_goto (tgt := 14) hx hb dX11_isPart_10 (by decide) ?_
    subst hQ_
    exact z_zret C0 hP hS (v := (1 : Int32)) (by decide) (by exact Or.inl ⟨rfl, rfl, by first | exact Or.inl c_1 | exact Or.inr c_6⟩) dX11_isPart_14
  · skip
    refine lv_iload_n hx hb dX11_isPart_4 rfl (lv_at hl 0 rfl) ?_
    refine lv_iconst (v := (1 : Int32)) hx hb dX11_isPart_5 (by decide) ?_
    refine lv_icmp_ne (tgt := 13) hx hb dX11_isPart_6 (by decide) (fun c_6 => ?_) (fun c_6 => ?_)
    · skip
      refine lv_iconst (v := (0 : Int32)) hx hb dX11_isPart_13 (by decide) ?_
      subst hQ_
      exact z_zret C0 hP hS (v := (0 : Int32)) (by decide) (by exact Or.inr ⟨rfl, rfl, z_part_n c_1 c_6⟩) dX11_isPart_14
    · skip
      refine lv_iconst (v := (1 : Int32)) hx hb dX11_isPart_9 (by decide) ?_
      refine lv_goto (tgt := 14) hx hb dX11_isPart_10 (by decide) ?_
      subst hQ_
      exact z_zret C0 hP hS (v := (1 : Int32)) (by decide) (by exact Or.inl ⟨rfl, rfl, by first | exact Or.inl c_1 | exact Or.inr c_6⟩) dX11_isPart_14
set_option maxHeartbeats 4000000 in
set_option maxRecDepth 100000 in
theorem c_X11_refusalOfOdds (l : Launch) (E : zE) (G : zG) (r : Nat → Int32) (n na : Nat) (athlete t u v : Int32) (hR : zFA G 1 r n na) (hn10 : n ≤ 10) (hna : na ≤ 5) : zMi l yX11_refusalOfOdds wsX11_refusalOfOdds ({ frames := 1, cells := 0, slots := 0, locals := 21 } : Room) E G [.ref (E.1 0), .int athlete, .int t, .int u, .int v] (fun r1 G1 => (-1 = r1 ∧ G = G1 ∧ f_odds na athlete t u v = 1) ∨ (-4 = r1 ∧ G = G1 ∧ f_odds na athlete t u v = 4) ∨ (-6 = r1 ∧ G = G1 ∧ f_odds na athlete t u v = 6) ∨ (0 = r1 ∧ G = G1 ∧ f_odds na athlete t u v = 0 ∧ (∃ j, j < na ∧ athlete = nI j) ∧ (∃ j : Nat, (2 ≤ j ∧ j ≤ 20) ∧ t = nI j) ∧ (∃ j : Nat, j ≤ 99 ∧ u = nI j) ∧ ∃ j : Nat, j ≤ 999 ∧ v = nI j)) := by
  refine zOf (cc := cX11_refusalOfOdds) (nL := 5) (ret := (some .int)) RX11 (by decide) rfl rfl (Nat.le_of_ble_eq_true rfl) ?_
  intro p_ e_ s_ m_ a_ b_ me_ c_ ls C0 hP hS hl
  have hx := C0.1
  have hb := C0.2.1
  have hts := C0.2.2.2.2.1
  have hD : zD E (zA E s_.heap.size) := C0.2.2.2.2.2.2.2.2
  have hA : ∀ q : Nat, s_.heap.size ≤ q → zA E s_.heap.size q := fun q h => Or.inr h
  refine z_gen (fun Q_ hQ_ => ?_)
  have hl : lv_has ls 5 [(0, .ref (E.1 0)), (1, .int athlete), (2, .int t), (3, .int u), (4, .int v)] := hl
  refine lv_aload_n hx hb dX11_refusalOfOdds_0 rfl (lv_at hl 0 rfl) ?_
  refine z_get C0 hP (C := RX11) (T := TX11) (N := 11) (ci := 9) (index := 10) (k := 0) (ref := "WetSuitPedalsShoes") (zk_lt (rfl : zk 0 = 9) (by decide)) (zd_9 E (rfl : zk 0 = 9) _) rfl (zmi inU_11) 0 (by decide) (zm flRX11_10) rfl (v := .ref (E.1 1)) (rfl) dX11_refusalOfOdds_1 ?_
  refine lv_iload_n hx hb dX11_refusalOfOdds_4 rfl (lv_at hl 1 rfl) ?_
  refine z_Vi C0 hP hD hA hS (As := [.int athlete]) (rest := []) (k := 1) (c_X3_has l E _ 1 na athlete z_lit_Fie_1 (hR.2.1) (by omega)) (cwV 1 hts (zgV zbw mlRX11_117 imX3_has seX3_has iniRX3 coX3_has) rfl rfl rfl (by decide +kernel) ⟨Nat.le_of_ble_eq_true rfl, Nat.le_of_ble_eq_true rfl⟩) (zk_lt (rfl : zk 1 = 3) (by decide)) (zd_3 E (rfl : zk 1 = 3) _) rfl rfl rfl hl.1 rfl (Nat.le_of_ble_eq_true rfl) dX11_refusalOfOdds_5 ⟨Nat.zero_le _, Nat.zero_le _⟩ (fun r1 G1 H locs hw1 hP hS => ?_)
  rcases hw1 with ⟨rfl, rfl, ia, hia, rfl⟩ | ⟨rfl, rfl, hno1⟩
  · skip
    have hz_ia := zin_t hia (by omega)
    have hy_ia : zix (nI ia) = ia := zix_n (by omega)
    refine lv_if_ne (tgt := 13) hx hb dX11_refusalOfOdds_8 (by decide) (fun _ => ?_) (fun h_ => absurd h_ (by decide))
    refine lv_iload_n hx hb dX11_refusalOfOdds_13 rfl (lv_at hl 2 rfl) ?_
    refine lv_iconst (v := (2 : Int32)) hx hb dX11_refusalOfOdds_14 (by decide) ?_
    refine lv_icmp_lt (tgt := 27) hx hb dX11_refusalOfOdds_15 (by decide) (fun c_15 => ?_) (fun c_15 => ?_)
    · skip
      refine lv_bipush (v := (-4 : Int32)) hx hb dX11_refusalOfOdds_27 (by decide) ?_
      subst hQ_
      exact z_iret C0 hP hS (v := (-4 : Int32)) (by exact Or.inr (Or.inl ⟨rfl, rfl, f_odds_4 hz_ia (by first | exact Or.inl c_15 | exact Or.inr (Or.inl c_19) | exact Or.inr (Or.inr d_24))⟩)) dX11_refusalOfOdds_29
    · skip
      refine lv_iload_n hx hb dX11_refusalOfOdds_18 rfl (lv_at hl 3 rfl) ?_
      refine lv_if_lt (tgt := 27) hx hb dX11_refusalOfOdds_19 (by decide) (fun c_19 => ?_) (fun c_19 => ?_)
      · skip
        refine lv_bipush (v := (-4 : Int32)) hx hb dX11_refusalOfOdds_27 (by decide) ?_
        subst hQ_
        exact z_iret C0 hP hS (v := (-4 : Int32)) (by exact Or.inr (Or.inl ⟨rfl, rfl, f_odds_4 hz_ia (by first | exact Or.inl c_15 | exact Or.inr (Or.inl c_19) | exact Or.inr (Or.inr d_24))⟩)) dX11_refusalOfOdds_29
      · skip
        refine lv_iload hx hb dX11_refusalOfOdds_22 (lv_at hl 4 rfl) ?_
        refine lv_if_ge (tgt := 30) hx hb dX11_refusalOfOdds_24 (by decide) (fun c_24 => ?_) (fun c_24 => ?_)
        · skip
          have d_24 := Int32.not_lt.mpr c_24
          refine lv_iload_n hx hb dX11_refusalOfOdds_30 rfl (lv_at hl 2 rfl) ?_
          refine lv_bipush (v := (20 : Int32)) hx hb dX11_refusalOfOdds_31 (by decide) ?_
          refine lv_icmp_gt (tgt := 50) hx hb dX11_refusalOfOdds_33 (by decide) (fun c_33 => ?_) (fun c_33 => ?_)
          · skip
            refine lv_bipush (v := (-6 : Int32)) hx hb dX11_refusalOfOdds_50 (by decide) ?_
            refine lv_goto (tgt := 56) hx hb dX11_refusalOfOdds_52 (by decide) ?_
            subst hQ_
            exact z_iret C0 hP hS (v := (-6 : Int32)) (by exact Or.inr (Or.inr (Or.inl ⟨rfl, rfl, f_odds_6 hz_ia c_15 c_19 d_24 (by first | exact Or.inl c_33 | exact Or.inr (Or.inl c_39) | exact Or.inr (Or.inr d_47))⟩))) dX11_refusalOfOdds_56
          · skip
            refine lv_iload_n hx hb dX11_refusalOfOdds_36 rfl (lv_at hl 3 rfl) ?_
            refine lv_bipush (v := (99 : Int32)) hx hb dX11_refusalOfOdds_37 (by decide) ?_
            refine lv_icmp_gt (tgt := 50) hx hb dX11_refusalOfOdds_39 (by decide) (fun c_39 => ?_) (fun c_39 => ?_)
            · skip
              refine lv_bipush (v := (-6 : Int32)) hx hb dX11_refusalOfOdds_50 (by decide) ?_
              refine lv_goto (tgt := 56) hx hb dX11_refusalOfOdds_52 (by decide) ?_
              subst hQ_
              exact z_iret C0 hP hS (v := (-6 : Int32)) (by exact Or.inr (Or.inr (Or.inl ⟨rfl, rfl, f_odds_6 hz_ia c_15 c_19 d_24 (by first | exact Or.inl c_33 | exact Or.inr (Or.inl c_39) | exact Or.inr (Or.inr d_47))⟩))) dX11_refusalOfOdds_56
            · skip
              refine lv_iload hx hb dX11_refusalOfOdds_42 (lv_at hl 4 rfl) ?_
              refine lv_sipush (v := (999 : Int32)) hx hb dX11_refusalOfOdds_44 (by decide) ?_
              refine lv_icmp_le (tgt := 55) hx hb dX11_refusalOfOdds_47 (by decide) (fun c_47 => ?_) (fun c_47 => ?_)
              · skip
                have d_47 := Int32.not_lt.mpr c_47
                refine lv_iconst (v := (0 : Int32)) hx hb dX11_refusalOfOdds_55 (by decide) ?_
                subst hQ_
                exact z_iret C0 hP hS (v := (0 : Int32)) (by have h9 := f_odds_0 hna hz_ia c_15 c_19 d_24 c_33 c_39 d_47; exact Or.inr (Or.inr (Or.inr ⟨rfl, rfl, h9.1, ⟨ia, hia, rfl⟩, h9.2.1, h9.2.2.1, h9.2.2.2⟩))) dX11_refusalOfOdds_56
              · skip
                have d_47 := Int32.not_le.mp c_47
                refine lv_bipush (v := (-6 : Int32)) hx hb dX11_refusalOfOdds_50 (by decide) ?_
                refine lv_goto (tgt := 56) hx hb dX11_refusalOfOdds_52 (by decide) ?_
                subst hQ_
                exact z_iret C0 hP hS (v := (-6 : Int32)) (by exact Or.inr (Or.inr (Or.inl ⟨rfl, rfl, f_odds_6 hz_ia c_15 c_19 d_24 (by first | exact Or.inl c_33 | exact Or.inr (Or.inl c_39) | exact Or.inr (Or.inr d_47))⟩))) dX11_refusalOfOdds_56
        · skip
          have d_24 := Int32.not_le.mp c_24
          refine lv_bipush (v := (-4 : Int32)) hx hb dX11_refusalOfOdds_27 (by decide) ?_
          subst hQ_
          exact z_iret C0 hP hS (v := (-4 : Int32)) (by exact Or.inr (Or.inl ⟨rfl, rfl, f_odds_4 hz_ia (by first | exact Or.inl c_15 | exact Or.inr (Or.inl c_19) | exact Or.inr (Or.inr d_24))⟩)) dX11_refusalOfOdds_29
  · skip
    have hz_ia := zin_f (by omega) hno1
    refine lv_if_ne (tgt := 13) hx hb dX11_refusalOfOdds_8 (by decide) (fun h_ => absurd (by decide) h_) (fun _ => ?_)
    refine lv_iconst (v := (-1 : Int32)) hx hb dX11_refusalOfOdds_11 (by decide) ?_
    subst hQ_
    exact z_iret C0 hP hS (v := (-1 : Int32)) (by exact Or.inl ⟨rfl, rfl, f_odds_1 hz_ia⟩) dX11_refusalOfOdds_12
theorem mlRX11_215 : Cond.methodLink RX11 215 yX11_refusalOfOdds ∈ zU := zU_m 658 (by decide +kernel) rfl
theorem coX11_refusalOfOdds : Cond.code yX11_refusalOfOdds cX11_refusalOfOdds 5 (some .int) ∈ zU := zU_m 661 (by decide +kernel) rfl
theorem imX11_refusalOfOdds : Cond.instanceMethod yX11_refusalOfOdds ∈ zU := zU_m 660 (by decide +kernel) rfl
theorem seX11_refusalOfOdds : Cond.selects RX11 yX11_refusalOfOdds yX11_refusalOfOdds ∈ zU := zU_m 20 (by decide +kernel) rfl
set_option maxHeartbeats 4000000 in
set_option maxRecDepth 100000 in
theorem c_X11_tube (l : Launch) (E : zE) (G : zG) (r : Nat → Int32) (n na : Nat) (athlete t u : Int32) (hR : zFA G 1 r n na) (hn10 : n ≤ 10) (hna : na ≤ 5) (hp : zPl G) : zMi l yX11_tube wsX11_tube ({ frames := 2, cells := 0, slots := 0, locals := 45 } : Room) E G [.ref (E.1 0), .int athlete, .int t, .int u] (fun r1 G1 => zQc (A_tube r n na athlete t u) G r1 G1) := by
  refine zOf (cc := cX11_tube) (nL := 6) (ret := (some .int)) RX11 (by decide) rfl rfl (Nat.le_of_ble_eq_true rfl) ?_
  intro p_ e_ s_ m_ a_ b_ me_ c_ ls C0 hP hS hl
  have hx := C0.1
  have hb := C0.2.1
  have hts := C0.2.2.2.2.1
  have hD : zD E (zA E s_.heap.size) := C0.2.2.2.2.2.2.2.2
  have hA : ∀ q : Nat, s_.heap.size ≤ q → zA E s_.heap.size q := fun q h => Or.inr h
  refine z_gen (fun Q_ hQ_ => ?_)
  have hl : lv_has ls 6 [(0, .ref (E.1 0)), (1, .int athlete), (2, .int t), (3, .int u)] := hl
  refine lv_aload_n hx hb dX11_tube_0 rfl (lv_at hl 0 rfl) ?_
  refine lv_iload_n hx hb dX11_tube_1 rfl (lv_at hl 1 rfl) ?_
  refine lv_iload_n hx hb dX11_tube_2 rfl (lv_at hl 2 rfl) ?_
  refine lv_iload_n hx hb dX11_tube_3 rfl (lv_at hl 3 rfl) ?_
  refine lv_iconst (v := (0 : Int32)) hx hb dX11_tube_4 (by decide) ?_
  refine z_Vi C0 hP hD hA hS (As := [.int athlete, .int t, .int u, .int (0 : Int32)]) (rest := []) (k := 0) (c_X11_refusalOfOdds l E _ r n na athlete t u (0 : Int32) hR hn10 hna) (cwV 4 hts (zgV zbw mlRX11_215 imX11_refusalOfOdds seX11_refusalOfOdds iniRX11 coX11_refusalOfOdds) rfl rfl rfl (by decide +kernel) ⟨Nat.le_of_ble_eq_true rfl, Nat.le_of_ble_eq_true rfl⟩) (zk_lt (rfl : zk 0 = 9) (by decide)) (zd_9 E (rfl : zk 0 = 9) _) rfl rfl rfl hl.1 rfl (Nat.le_of_ble_eq_true rfl) dX11_tube_5 ⟨Nat.zero_le _, Nat.zero_le _⟩ (fun r1 G1 H locs hw1 hP hS => ?_)
  rcases hw1 with ⟨rfl, rfl, hfo1⟩ | ⟨rfl, rfl, hfo1⟩ | ⟨rfl, rfl, hfo1⟩ | ⟨rfl, rfl, hfo1, ⟨ia, hia, rfl⟩, ⟨tn, htn, rfl⟩, ⟨un, hun, rfl⟩, _⟩
  · skip
    refine lv_istore (lv' := [(4, .int (-1 : Int32)), (0, .ref (E.1 0)), (1, .int athlete), (2, .int t), (3, .int u)]) hx hb dX11_tube_8 hl (by decide) rfl (fun ls hl => ?_)
    refine lv_iload hx hb dX11_tube_10 (lv_at hl 0 rfl) ?_
    refine lv_if_eq (tgt := 22) hx hb dX11_tube_12 (by decide) (fun h_ => absurd h_ (by decide)) (fun _ => ?_)
    refine lv_aload_n hx hb dX11_tube_15 rfl (lv_at hl 1 rfl) ?_
    refine lv_iload hx hb dX11_tube_16 (lv_at hl 0 rfl) ?_
    refine z_Vi C0 hP hD hA hS (As := [.int (-1 : Int32)]) (rest := []) (k := 0) (c_X11_refuse l E _ (-1 : Int32) 1 (by decide) (by decide) (by decide)) (cwV 1 hts (zgV zbw mlRX11_72 imX11_refuse seX11_refuse iniRX11 coX11_refuse) rfl rfl rfl (by decide +kernel) ⟨Nat.le_of_ble_eq_true rfl, Nat.le_of_ble_eq_true rfl⟩) (zk_lt (rfl : zk 0 = 9) (by decide)) (zd_9 E (rfl : zk 0 = 9) _) rfl rfl rfl hl.1 rfl (Nat.le_of_ble_eq_true rfl) dX11_tube_18 ⟨Nat.zero_le _, Nat.zero_le _⟩ (fun r2 G2 H locs hw2 hP hS => ?_)
    obtain ⟨rfl, rfl⟩ := hw2
    subst hQ_
    exact z_iret C0 hP hS (v := (-1 : Int32)) (by exact zQc_of (k := 1) (by simp [A_tube, hfo1]) (fun k hk => g1_n (by omega)) (g1_s _ _ _) (z_plk (g1_n (by decide)) hp)) dX11_tube_21
  · skip
    refine lv_istore (lv' := [(4, .int (-4 : Int32)), (0, .ref (E.1 0)), (1, .int athlete), (2, .int t), (3, .int u)]) hx hb dX11_tube_8 hl (by decide) rfl (fun ls hl => ?_)
    refine lv_iload hx hb dX11_tube_10 (lv_at hl 0 rfl) ?_
    refine lv_if_eq (tgt := 22) hx hb dX11_tube_12 (by decide) (fun h_ => absurd h_ (by decide)) (fun _ => ?_)
    refine lv_aload_n hx hb dX11_tube_15 rfl (lv_at hl 1 rfl) ?_
    refine lv_iload hx hb dX11_tube_16 (lv_at hl 0 rfl) ?_
    refine z_Vi C0 hP hD hA hS (As := [.int (-4 : Int32)]) (rest := []) (k := 0) (c_X11_refuse l E _ (-4 : Int32) 4 (by decide) (by decide) (by decide)) (cwV 1 hts (zgV zbw mlRX11_72 imX11_refuse seX11_refuse iniRX11 coX11_refuse) rfl rfl rfl (by decide +kernel) ⟨Nat.le_of_ble_eq_true rfl, Nat.le_of_ble_eq_true rfl⟩) (zk_lt (rfl : zk 0 = 9) (by decide)) (zd_9 E (rfl : zk 0 = 9) _) rfl rfl rfl hl.1 rfl (Nat.le_of_ble_eq_true rfl) dX11_tube_18 ⟨Nat.zero_le _, Nat.zero_le _⟩ (fun r3 G3 H locs hw3 hP hS => ?_)
    obtain ⟨rfl, rfl⟩ := hw3
    subst hQ_
    exact z_iret C0 hP hS (v := (-4 : Int32)) (by exact zQc_of (k := 4) (by simp [A_tube, hfo1]) (fun k hk => g1_n (by omega)) (g1_s _ _ _) (z_plk (g1_n (by decide)) hp)) dX11_tube_21
  · skip
    refine lv_istore (lv' := [(4, .int (-6 : Int32)), (0, .ref (E.1 0)), (1, .int athlete), (2, .int t), (3, .int u)]) hx hb dX11_tube_8 hl (by decide) rfl (fun ls hl => ?_)
    refine lv_iload hx hb dX11_tube_10 (lv_at hl 0 rfl) ?_
    refine lv_if_eq (tgt := 22) hx hb dX11_tube_12 (by decide) (fun h_ => absurd h_ (by decide)) (fun _ => ?_)
    refine lv_aload_n hx hb dX11_tube_15 rfl (lv_at hl 1 rfl) ?_
    refine lv_iload hx hb dX11_tube_16 (lv_at hl 0 rfl) ?_
    refine z_Vi C0 hP hD hA hS (As := [.int (-6 : Int32)]) (rest := []) (k := 0) (c_X11_refuse l E _ (-6 : Int32) 6 (by decide) (by decide) (by decide)) (cwV 1 hts (zgV zbw mlRX11_72 imX11_refuse seX11_refuse iniRX11 coX11_refuse) rfl rfl rfl (by decide +kernel) ⟨Nat.le_of_ble_eq_true rfl, Nat.le_of_ble_eq_true rfl⟩) (zk_lt (rfl : zk 0 = 9) (by decide)) (zd_9 E (rfl : zk 0 = 9) _) rfl rfl rfl hl.1 rfl (Nat.le_of_ble_eq_true rfl) dX11_tube_18 ⟨Nat.zero_le _, Nat.zero_le _⟩ (fun r4 G4 H locs hw4 hP hS => ?_)
    obtain ⟨rfl, rfl⟩ := hw4
    subst hQ_
    exact z_iret C0 hP hS (v := (-6 : Int32)) (by exact zQc_of (k := 6) (by simp [A_tube, hfo1]) (fun k hk => g1_n (by omega)) (g1_s _ _ _) (z_plk (g1_n (by decide)) hp)) dX11_tube_21
  · skip
    have hy_ia : zix (nI ia) = ia := zix_n (by omega)
    have hy_tn : zix (nI tn) = tn := zix_n (by omega)
    have hy_un : zix (nI un) = un := zix_n (by omega)
    refine lv_istore (lv' := [(4, .int (0 : Int32)), (0, .ref (E.1 0)), (1, .int (nI ia)), (2, .int (nI tn)), (3, .int (nI un))]) hx hb dX11_tube_8 hl (by decide) rfl (fun ls hl => ?_)
    refine lv_iload hx hb dX11_tube_10 (lv_at hl 0 rfl) ?_
    refine lv_if_eq (tgt := 22) hx hb dX11_tube_12 (by decide) (fun _ => ?_) (fun h_ => absurd (by decide) h_)
    refine lv_aload_n hx hb dX11_tube_22 rfl (lv_at hl 1 rfl) ?_
    refine z_get C0 hP (C := RX11) (T := TX11) (N := 11) (ci := 9) (index := 10) (k := 0) (ref := "WetSuitPedalsShoes") (zk_lt (rfl : zk 0 = 9) (by decide)) (zd_9 E (rfl : zk 0 = 9) _) rfl (zmi inU_11) 0 (by decide) (zm flRX11_10) rfl (v := .ref (E.1 1)) (rfl) dX11_tube_23 ?_
    refine z_get C0 hP (C := RX3) (T := TX3) (N := 3) (ci := 3) (index := 93) (k := 1) (ref := "WetSuitPedalsShoes$Field") (zk_lt (rfl : zk 1 = 3) (by decide)) (zd_3 E (rfl : zk 1 = 3) _) rfl (zmi inU_3) 0 (by decide) (zm flRX11_93) rfl (v := .ref (E.1 2)) (rfl) dX11_tube_26 ?_
    refine z_Vi C0 hP hD hA hS (As := []) (rest := []) (k := 2) (c_X1_rides l E _ r n na hR hn10 hna) (cwV 0 hts (zgV zbw mlRX11_224 imX1_rides seX1_rides iniRX1 coX1_rides) rfl rfl rfl (by decide +kernel) ⟨Nat.le_of_ble_eq_true rfl, Nat.le_of_ble_eq_true rfl⟩) (zk_lt (rfl : zk 2 = 1) (by decide)) (zd_1 E (rfl : zk 2 = 1) _) rfl rfl rfl hl.1 rfl (Nat.le_of_ble_eq_true rfl) dX11_tube_29 ⟨Nat.zero_le _, Nat.zero_le _⟩ (fun r5 G5 H locs hw5 hP hS => ?_)
    obtain ⟨hr5, rfl⟩ := hw5
    subst hr5
    have hq9 := q_rides_le r n
    have hf3 : un * q_rides r n ≤ 99 * 10 := Nat.mul_le_mul hun (by omega)
    refine lv_istore (lv' := [(5, .int (nI (q_rides r n))), (4, .int (0 : Int32)), (0, .ref (E.1 0)), (1, .int (nI ia)), (2, .int (nI tn)), (3, .int (nI un))]) hx hb dX11_tube_32 hl (by decide) rfl (fun ls hl => ?_)
    refine lv_bipush (v := (60 : Int32)) hx hb dX11_tube_34 (by decide) ?_
    refine lv_iload_n hx hb dX11_tube_36 rfl (lv_at hl 4 rfl) ?_
    refine z_imul hx hb (a := 60) (b := tn) (n := 60 * tn) dX11_tube_37 rfl rfl rfl ?_
    refine lv_bipush (v := (10 : Int32)) hx hb dX11_tube_38 (by decide) ?_
    refine lv_iload hx hb dX11_tube_40 (lv_at hl 0 rfl) ?_
    refine z_imul hx hb (a := 10) (b := q_rides r n) (n := 10 * (q_rides r n)) dX11_tube_42 rfl rfl rfl ?_
    refine z_iadd hx hb (a := 60 * tn) (b := 10 * (q_rides r n)) (n := (60 * tn) + (10 * (q_rides r n))) dX11_tube_43 rfl rfl rfl ?_
    refine lv_iload_n hx hb dX11_tube_44 rfl (lv_at hl 5 rfl) ?_
    refine lv_iload hx hb dX11_tube_45 (lv_at hl 0 rfl) ?_
    refine z_imul hx hb (a := un) (b := q_rides r n) (n := un * (q_rides r n)) dX11_tube_47 rfl rfl rfl ?_
    refine z_N_ge hx hb (a := (60 * tn) + (10 * (q_rides r n))) (b := un * (q_rides r n)) (tgt := 55) dX11_tube_48 rfl rfl (by omega) (by omega) (by decide) (fun c_48 => ?_) (fun c_48 => ?_)
    · skip
      refine lv_iconst (v := (0 : Int32)) hx hb dX11_tube_55 (by decide) ?_
      subst hQ_
      exact z_iret C0 hP hS (v := (0 : Int32)) (by exact zQc_of (k := 0) (by simp [A_tube, hfo1, hy_ia, hy_tn, hy_un, c_48]) (fun k hk => rfl) (rfl) (hp)) dX11_tube_56
    · skip
      refine lv_iconst (v := (1 : Int32)) hx hb dX11_tube_51 (by decide) ?_
      refine lv_goto (tgt := 56) hx hb dX11_tube_52 (by decide) ?_
      subst hQ_
      exact z_iret C0 hP hS (v := (1 : Int32)) (by exact zQc_of (k := 0) (by simp [A_tube, hfo1, hy_ia, hy_tn, hy_un, c_48]) (fun k hk => rfl) (rfl) (hp)) dX11_tube_56
theorem kkRX11_222 : Cond.constantLong RX11 222 (4000000000000000000) ∈ zU := zU_m 665 (by decide +kernel) rfl
theorem mlRX11_219 : Cond.methodLink RX11 219 yX11_isPart ∈ zU := zU_m 662 (by decide +kernel) rfl
theorem coX11_isPart : Cond.code yX11_isPart cX11_isPart 1 (some .boolean) ∈ zU := zU_m 664 (by decide +kernel) rfl
theorem stX11_isPart : Cond.static yX11_isPart ∈ zU := zU_m 663 (by decide +kernel) rfl
theorem mlRX11_237 : Cond.methodLink RX11 237 yX6_partInLeastTerms ∈ zU := zU_m 677 (by decide +kernel) rfl
theorem coX6_partInLeastTerms : Cond.code yX6_partInLeastTerms cX6_partInLeastTerms 7 (some .long) ∈ zU := zU_m 679 (by decide +kernel) rfl
theorem stX6_partInLeastTerms : Cond.static yX6_partInLeastTerms ∈ zU := zU_m 678 (by decide +kernel) rfl
set_option maxHeartbeats 4000000 in
set_option maxRecDepth 100000 in
theorem c_X11_mean (l : Launch) (E : zE) (G : zG) (r : Nat → Int32) (n na : Nat) (athlete t u part : Int32) (hR : zFA G 1 r n na) (hn10 : n ≤ 10) (hna : na ≤ 5) (hp : zPl G) (hkd : zKd r n) (hV : zVr r n na) : zMl l yX11_mean wsX11_mean ({ frames := 5, cells := 0, slots := 0, locals := 111 } : Room) E G [.ref (E.1 0), .int athlete, .int t, .int u, .int part] (fun r1 G1 => zLc (A_mean r n na athlete t u part) G r1 G1) := by
  refine zOf (cc := cX11_mean) (nL := 8) (ret := (some .long)) RX11 (by decide) rfl rfl (Nat.le_of_ble_eq_true rfl) ?_
  intro p_ e_ s_ m_ a_ b_ me_ c_ ls C0 hP hS hl
  have hx := C0.1
  have hb := C0.2.1
  have hts := C0.2.2.2.2.1
  have hD : zD E (zA E s_.heap.size) := C0.2.2.2.2.2.2.2.2
  have hA : ∀ q : Nat, s_.heap.size ≤ q → zA E s_.heap.size q := fun q h => Or.inr h
  refine z_gen (fun Q_ hQ_ => ?_)
  have hl : lv_has ls 8 [(0, .ref (E.1 0)), (1, .int athlete), (2, .int t), (3, .int u), (4, .int part)] := hl
  refine lv_aload_n hx hb dX11_mean_0 rfl (lv_at hl 0 rfl) ?_
  refine lv_iload_n hx hb dX11_mean_1 rfl (lv_at hl 1 rfl) ?_
  refine lv_iload_n hx hb dX11_mean_2 rfl (lv_at hl 2 rfl) ?_
  refine lv_iload_n hx hb dX11_mean_3 rfl (lv_at hl 3 rfl) ?_
  refine lv_iconst (v := (0 : Int32)) hx hb dX11_mean_4 (by decide) ?_
  refine z_Vi C0 hP hD hA hS (As := [.int athlete, .int t, .int u, .int (0 : Int32)]) (rest := []) (k := 0) (c_X11_refusalOfOdds l E _ r n na athlete t u (0 : Int32) hR hn10 hna) (cwV 4 hts (zgV zbw mlRX11_215 imX11_refusalOfOdds seX11_refusalOfOdds iniRX11 coX11_refusalOfOdds) rfl rfl rfl (by decide +kernel) ⟨Nat.le_of_ble_eq_true rfl, Nat.le_of_ble_eq_true rfl⟩) (zk_lt (rfl : zk 0 = 9) (by decide)) (zd_9 E (rfl : zk 0 = 9) _) rfl rfl rfl hl.1 rfl (Nat.le_of_ble_eq_true rfl) dX11_mean_5 ⟨Nat.zero_le _, Nat.zero_le _⟩ (fun r1 G1 H locs hw1 hP hS => ?_)
  rcases hw1 with ⟨rfl, rfl, hfo1⟩ | ⟨rfl, rfl, hfo1⟩ | ⟨rfl, rfl, hfo1⟩ | ⟨rfl, rfl, hfo1, ⟨ia, hia, rfl⟩, ⟨tn, htn, rfl⟩, ⟨un, hun, rfl⟩, _⟩
  · skip
    refine lv_istore (lv' := [(5, .int (-1 : Int32)), (0, .ref (E.1 0)), (1, .int athlete), (2, .int t), (3, .int u), (4, .int part)]) hx hb dX11_mean_8 hl (by decide) rfl (fun ls hl => ?_)
    refine lv_iload hx hb dX11_mean_10 (lv_at hl 0 rfl) ?_
    refine lv_if_ne (tgt := 27) hx hb dX11_mean_12 (by decide) (fun _ => ?_) (fun h_ => absurd h_ (by decide))
    refine lv_iload hx hb dX11_mean_27 (lv_at hl 0 rfl) ?_
    refine lv_if_eq (tgt := 44) hx hb dX11_mean_29 (by decide) (fun h_ => absurd h_ (by decide)) (fun _ => ?_)
    refine lv_ldc2 (v := (4000000000000000000 : Int64)) hx hb C0.2.2.2.1 (hts _ (zm kkRX11_222)) dX11_mean_32 ?_
    refine lv_aload_n hx hb dX11_mean_35 rfl (lv_at hl 1 rfl) ?_
    refine lv_iload hx hb dX11_mean_36 (lv_at hl 0 rfl) ?_
    refine z_Vi C0 hP hD hA hS (As := [.int (-1 : Int32)]) (rest := [.long (4000000000000000000 : Int64)]) (k := 0) (c_X11_refuse l E _ (-1 : Int32) 1 (by decide) (by decide) (by decide)) (cwV 1 hts (zgV zbw mlRX11_72 imX11_refuse seX11_refuse iniRX11 coX11_refuse) rfl rfl rfl (by decide +kernel) ⟨Nat.le_of_ble_eq_true rfl, Nat.le_of_ble_eq_true rfl⟩) (zk_lt (rfl : zk 0 = 9) (by decide)) (zd_9 E (rfl : zk 0 = 9) _) rfl rfl rfl hl.1 rfl (Nat.le_of_ble_eq_true rfl) dX11_mean_38 ⟨Nat.zero_le _, Nat.zero_le _⟩ (fun r2 G2 H locs hw2 hP hS => ?_)
    obtain ⟨rfl, rfl⟩ := hw2
    refine lv_i2l (v := ((-1 : Int32).toInt64)) hx hb dX11_mean_41 rfl ?_
    refine lv_lsub hx hb dX11_mean_42 ?_
    subst hQ_
    exact z_lret C0 hP hS (v := ((4000000000000000000 : Int64) - ((-1 : Int32).toInt64))) (by exact zLc_of (k := 1) (by simp [A_mean, hfo1, z_wide]) (fun k hk => g1_n (by omega)) (g1_s _ _ _) (z_plk (g1_n (by decide)) hp)) dX11_mean_43
  · skip
    refine lv_istore (lv' := [(5, .int (-4 : Int32)), (0, .ref (E.1 0)), (1, .int athlete), (2, .int t), (3, .int u), (4, .int part)]) hx hb dX11_mean_8 hl (by decide) rfl (fun ls hl => ?_)
    refine lv_iload hx hb dX11_mean_10 (lv_at hl 0 rfl) ?_
    refine lv_if_ne (tgt := 27) hx hb dX11_mean_12 (by decide) (fun _ => ?_) (fun h_ => absurd h_ (by decide))
    refine lv_iload hx hb dX11_mean_27 (lv_at hl 0 rfl) ?_
    refine lv_if_eq (tgt := 44) hx hb dX11_mean_29 (by decide) (fun h_ => absurd h_ (by decide)) (fun _ => ?_)
    refine lv_ldc2 (v := (4000000000000000000 : Int64)) hx hb C0.2.2.2.1 (hts _ (zm kkRX11_222)) dX11_mean_32 ?_
    refine lv_aload_n hx hb dX11_mean_35 rfl (lv_at hl 1 rfl) ?_
    refine lv_iload hx hb dX11_mean_36 (lv_at hl 0 rfl) ?_
    refine z_Vi C0 hP hD hA hS (As := [.int (-4 : Int32)]) (rest := [.long (4000000000000000000 : Int64)]) (k := 0) (c_X11_refuse l E _ (-4 : Int32) 4 (by decide) (by decide) (by decide)) (cwV 1 hts (zgV zbw mlRX11_72 imX11_refuse seX11_refuse iniRX11 coX11_refuse) rfl rfl rfl (by decide +kernel) ⟨Nat.le_of_ble_eq_true rfl, Nat.le_of_ble_eq_true rfl⟩) (zk_lt (rfl : zk 0 = 9) (by decide)) (zd_9 E (rfl : zk 0 = 9) _) rfl rfl rfl hl.1 rfl (Nat.le_of_ble_eq_true rfl) dX11_mean_38 ⟨Nat.zero_le _, Nat.zero_le _⟩ (fun r3 G3 H locs hw3 hP hS => ?_)
    obtain ⟨rfl, rfl⟩ := hw3
    refine lv_i2l (v := ((-4 : Int32).toInt64)) hx hb dX11_mean_41 rfl ?_
    refine lv_lsub hx hb dX11_mean_42 ?_
    subst hQ_
    exact z_lret C0 hP hS (v := ((4000000000000000000 : Int64) - ((-4 : Int32).toInt64))) (by exact zLc_of (k := 4) (by simp [A_mean, hfo1, z_wide]) (fun k hk => g1_n (by omega)) (g1_s _ _ _) (z_plk (g1_n (by decide)) hp)) dX11_mean_43
  · skip
    refine lv_istore (lv' := [(5, .int (-6 : Int32)), (0, .ref (E.1 0)), (1, .int athlete), (2, .int t), (3, .int u), (4, .int part)]) hx hb dX11_mean_8 hl (by decide) rfl (fun ls hl => ?_)
    refine lv_iload hx hb dX11_mean_10 (lv_at hl 0 rfl) ?_
    refine lv_if_ne (tgt := 27) hx hb dX11_mean_12 (by decide) (fun _ => ?_) (fun h_ => absurd h_ (by decide))
    refine lv_iload hx hb dX11_mean_27 (lv_at hl 0 rfl) ?_
    refine lv_if_eq (tgt := 44) hx hb dX11_mean_29 (by decide) (fun h_ => absurd h_ (by decide)) (fun _ => ?_)
    refine lv_ldc2 (v := (4000000000000000000 : Int64)) hx hb C0.2.2.2.1 (hts _ (zm kkRX11_222)) dX11_mean_32 ?_
    refine lv_aload_n hx hb dX11_mean_35 rfl (lv_at hl 1 rfl) ?_
    refine lv_iload hx hb dX11_mean_36 (lv_at hl 0 rfl) ?_
    refine z_Vi C0 hP hD hA hS (As := [.int (-6 : Int32)]) (rest := [.long (4000000000000000000 : Int64)]) (k := 0) (c_X11_refuse l E _ (-6 : Int32) 6 (by decide) (by decide) (by decide)) (cwV 1 hts (zgV zbw mlRX11_72 imX11_refuse seX11_refuse iniRX11 coX11_refuse) rfl rfl rfl (by decide +kernel) ⟨Nat.le_of_ble_eq_true rfl, Nat.le_of_ble_eq_true rfl⟩) (zk_lt (rfl : zk 0 = 9) (by decide)) (zd_9 E (rfl : zk 0 = 9) _) rfl rfl rfl hl.1 rfl (Nat.le_of_ble_eq_true rfl) dX11_mean_38 ⟨Nat.zero_le _, Nat.zero_le _⟩ (fun r4 G4 H locs hw4 hP hS => ?_)
    obtain ⟨rfl, rfl⟩ := hw4
    refine lv_i2l (v := ((-6 : Int32).toInt64)) hx hb dX11_mean_41 rfl ?_
    refine lv_lsub hx hb dX11_mean_42 ?_
    subst hQ_
    exact z_lret C0 hP hS (v := ((4000000000000000000 : Int64) - ((-6 : Int32).toInt64))) (by exact zLc_of (k := 6) (by simp [A_mean, hfo1, z_wide]) (fun k hk => g1_n (by omega)) (g1_s _ _ _) (z_plk (g1_n (by decide)) hp)) dX11_mean_43
  · skip
    have hy_ia : zix (nI ia) = ia := zix_n (by omega)
    have hy_tn : zix (nI tn) = tn := zix_n (by omega)
    have hy_un : zix (nI un) = un := zix_n (by omega)
    refine lv_istore (lv' := [(5, .int (0 : Int32)), (0, .ref (E.1 0)), (1, .int (nI ia)), (2, .int (nI tn)), (3, .int (nI un)), (4, .int part)]) hx hb dX11_mean_8 hl (by decide) rfl (fun ls hl => ?_)
    refine lv_iload hx hb dX11_mean_10 (lv_at hl 0 rfl) ?_
    refine lv_if_ne (tgt := 27) hx hb dX11_mean_12 (by decide) (fun h_ => absurd (by decide) h_) (fun _ => ?_)
    refine lv_iload hx hb dX11_mean_15 (lv_at hl 5 rfl) ?_
    refine z_Si C0 hP hD hA hS (As := [.int part]) (rest := []) (c_X11_isPart l E _ part) (va_cwS 1 hts (zgS zbw mlRX11_219 stX11_isPart iniRX11 coX11_isPart) rfl rfl rfl (by decide +kernel) ⟨Nat.le_of_ble_eq_true rfl, Nat.le_of_ble_eq_true rfl⟩) rfl hl.1 rfl (Nat.le_of_ble_eq_true rfl) dX11_mean_17 ⟨Nat.zero_le _, Nat.zero_le _⟩ (fun r5 G5 H locs hw5 hP hS => ?_)
    rcases hw5 with ⟨rfl, rfl, hpt5⟩ | ⟨rfl, rfl, hpb⟩
    · skip
      have hpb : z_part part = true := decide_eq_true hpt5
      refine lv_if_ne (tgt := 27) hx hb dX11_mean_20 (by decide) (fun _ => ?_) (fun h_ => absurd h_ (by decide))
      refine lv_iload hx hb dX11_mean_27 (lv_at hl 0 rfl) ?_
      refine lv_if_eq (tgt := 44) hx hb dX11_mean_29 (by decide) (fun _ => ?_) (fun h_ => absurd (by decide) h_)
      refine lv_aload_n hx hb dX11_mean_44 rfl (lv_at hl 1 rfl) ?_
      refine lv_iload_n hx hb dX11_mean_45 rfl (lv_at hl 2 rfl) ?_
      refine z_Vi C0 hP hD hA hS (As := [.int (nI ia)]) (rest := []) (k := 0) (c_X11_runPlan l E _ r n na ia hR hkd hn10 hna (by omega)) (cwV 1 hts (zgV zbw mlRX11_142 imX11_runPlan seX11_runPlan iniRX11 coX11_runPlan) rfl rfl rfl (by decide +kernel) ⟨Nat.le_of_ble_eq_true rfl, Nat.le_of_ble_eq_true rfl⟩) (zk_lt (rfl : zk 0 = 9) (by decide)) (zd_9 E (rfl : zk 0 = 9) _) rfl rfl rfl hl.1 rfl (Nat.le_of_ble_eq_true rfl) dX11_mean_46 ⟨Nat.zero_le _, Nat.zero_le _⟩ (fun r6 G6 H locs hw6 hP hS => ?_)
      obtain ⟨hr6, hF6, hTA6, hdr6, h36⟩ := hw6
      obtain ⟨fn, hfn, hfe, hfc⟩ := q_fin_e hV hia hn10
      have hq9 := q_rides_le r n
      have hr6 : nI fn = _ := hfe.symm.trans hr6
      subst hr6
      have hf1 : fn * tn ≤ 4000 * 20 := Nat.mul_le_mul hfn htn.2
      have hf2 : q_rides r n * un ≤ 10 * 99 := Nat.mul_le_mul (by omega) hun
      have hf3 : un * q_rides r n ≤ 99 * 10 := Nat.mul_le_mul hun (by omega)
      refine lv_i2l (v := (lN fn)) hx hb dX11_mean_49 (nI_l (by omega)) ?_
      refine lv_iload_n hx hb dX11_mean_50 rfl (lv_at hl 3 rfl) ?_
      refine lv_i2l (v := (lN tn)) hx hb dX11_mean_51 (nI_l (by omega)) ?_
      refine lv_lmul hx hb dX11_mean_52 ?_
      rw [show ((lN fn) * (lN tn)) = (lN (fn * tn)) from lN_mul _ _]
      refine lv_aload_n hx hb dX11_mean_53 rfl (lv_at hl 1 rfl) ?_
      refine z_get C0 hP (C := RX11) (T := TX11) (N := 11) (ci := 9) (index := 10) (k := 0) (ref := "WetSuitPedalsShoes") (zk_lt (rfl : zk 0 = 9) (by decide)) (zd_9 E (rfl : zk 0 = 9) _) rfl (zmi inU_11) 0 (by decide) (zm flRX11_10) rfl (v := .ref (E.1 1)) (rfl) dX11_mean_54 ?_
      refine z_get C0 hP (C := RX3) (T := TX3) (N := 3) (ci := 3) (index := 93) (k := 1) (ref := "WetSuitPedalsShoes$Field") (zk_lt (rfl : zk 1 = 3) (by decide)) (zd_3 E (rfl : zk 1 = 3) _) rfl (zmi inU_3) 0 (by decide) (zm flRX11_93) rfl (v := .ref (E.1 2)) (rfl) dX11_mean_57 ?_
      refine z_Vi C0 hP hD hA hS (As := []) (rest := [.long (lN (fn * tn))]) (k := 2) (c_X1_rides l E _ r n na (zFA_fr hR (fun k hk => hF6 k (by omega)) hna) hn10 hna) (cwV 0 hts (zgV zbw mlRX11_224 imX1_rides seX1_rides iniRX1 coX1_rides) rfl rfl rfl (by decide +kernel) ⟨Nat.le_of_ble_eq_true rfl, Nat.le_of_ble_eq_true rfl⟩) (zk_lt (rfl : zk 2 = 1) (by decide)) (zd_1 E (rfl : zk 2 = 1) _) rfl rfl rfl hl.1 rfl (Nat.le_of_ble_eq_true rfl) dX11_mean_60 ⟨Nat.zero_le _, Nat.zero_le _⟩ (fun r7 G7 H locs hw7 hP hS => ?_)
      obtain ⟨hr7, rfl⟩ := hw7
      subst hr7
      refine lv_i2l (v := (lN (q_rides r n))) hx hb dX11_mean_63 (nI_l (by omega)) ?_
      refine lv_iload_n hx hb dX11_mean_64 rfl (lv_at hl 4 rfl) ?_
      refine lv_i2l (v := (lN un)) hx hb dX11_mean_65 (nI_l (by omega)) ?_
      refine lv_lmul hx hb dX11_mean_66 ?_
      rw [show ((lN (q_rides r n)) * (lN un)) = (lN (q_rides r n * un)) from lN_mul _ _]
      refine lv_ladd hx hb dX11_mean_67 ?_
      rw [show ((lN (fn * tn)) + (lN (q_rides r n * un))) = (lN (fn * tn + q_rides r n * un)) from lN_add _ _]
      refine lv_lstore (lv' := [(6, .long (lN (fn * tn + q_rides r n * un))), (5, .int (0 : Int32)), (0, .ref (E.1 0)), (1, .int (nI ia)), (2, .int (nI tn)), (3, .int (nI un)), (4, .int part)]) hx hb dX11_mean_68 hl (by decide) rfl (fun ls hl => ?_)
      refine lv_lload hx hb dX11_mean_70 (lv_at hl 0 rfl) ?_
      refine lv_iload_n hx hb dX11_mean_72 rfl (lv_at hl 4 rfl) ?_
      refine lv_i2l (v := (lN tn)) hx hb dX11_mean_73 (nI_l (by omega)) ?_
      refine lv_iload hx hb dX11_mean_74 (lv_at hl 6 rfl) ?_
      refine z_Sl C0 hP hD hA hS (As := [.long (lN (fn * tn + q_rides r n * un)), .long (lN tn), .int part]) (rest := []) (c_X6_partInLeastTerms l E _ (fn * tn + q_rides r n * un) tn part (by omega) (by omega) (by omega)) (va_cwS 3 hts (zgS zbw mlRX11_237 stX6_partInLeastTerms iniRX6 coX6_partInLeastTerms) rfl rfl rfl (by decide +kernel) ⟨Nat.le_of_ble_eq_true rfl, Nat.le_of_ble_eq_true rfl⟩) rfl hl.1 rfl (Nat.le_of_ble_eq_true rfl) dX11_mean_76 ⟨Nat.zero_le _, Nat.zero_le _⟩ (fun r8 G8 H locs hw8 hP hS => ?_)
      obtain ⟨hr8, rfl⟩ := hw8
      subst hr8
      subst hQ_
      exact z_lret C0 hP hS (v := (q_part (fn * tn + q_rides r n * un) tn part)) (by exact zLc_of (k := 0) (by simp [A_mean, hfo1, hy_ia, hy_tn, hy_un, hpb, hfc, q_ml]) (fun k hk => hF6 k (by omega)) (hF6 _ (by decide)) (z_plk (hF6 _ (by decide)) hp)) dX11_mean_79
    · skip
      refine lv_if_ne (tgt := 27) hx hb dX11_mean_20 (by decide) (fun h_ => absurd (by decide) h_) (fun _ => ?_)
      refine lv_bipush (v := (-2 : Int32)) hx hb dX11_mean_23 (by decide) ?_
      refine lv_istore (lv' := [(5, .int (-2 : Int32)), (0, .ref (E.1 0)), (1, .int (nI ia)), (2, .int (nI tn)), (3, .int (nI un)), (4, .int part)]) hx hb dX11_mean_25 hl (by decide) rfl (fun ls hl => ?_)
      refine lv_iload hx hb dX11_mean_27 (lv_at hl 0 rfl) ?_
      refine lv_if_eq (tgt := 44) hx hb dX11_mean_29 (by decide) (fun h_ => absurd h_ (by decide)) (fun _ => ?_)
      refine lv_ldc2 (v := (4000000000000000000 : Int64)) hx hb C0.2.2.2.1 (hts _ (zm kkRX11_222)) dX11_mean_32 ?_
      refine lv_aload_n hx hb dX11_mean_35 rfl (lv_at hl 1 rfl) ?_
      refine lv_iload hx hb dX11_mean_36 (lv_at hl 0 rfl) ?_
      refine z_Vi C0 hP hD hA hS (As := [.int (-2 : Int32)]) (rest := [.long (4000000000000000000 : Int64)]) (k := 0) (c_X11_refuse l E _ (-2 : Int32) 2 (by decide) (by decide) (by decide)) (cwV 1 hts (zgV zbw mlRX11_72 imX11_refuse seX11_refuse iniRX11 coX11_refuse) rfl rfl rfl (by decide +kernel) ⟨Nat.le_of_ble_eq_true rfl, Nat.le_of_ble_eq_true rfl⟩) (zk_lt (rfl : zk 0 = 9) (by decide)) (zd_9 E (rfl : zk 0 = 9) _) rfl rfl rfl hl.1 rfl (Nat.le_of_ble_eq_true rfl) dX11_mean_38 ⟨Nat.zero_le _, Nat.zero_le _⟩ (fun r9 G9 H locs hw9 hP hS => ?_)
      obtain ⟨rfl, rfl⟩ := hw9
      refine lv_i2l (v := ((-2 : Int32).toInt64)) hx hb dX11_mean_41 rfl ?_
      refine lv_lsub hx hb dX11_mean_42 ?_
      subst hQ_
      exact z_lret C0 hP hS (v := ((4000000000000000000 : Int64) - ((-2 : Int32).toInt64))) (by exact zLc_of (k := 2) (by simp [A_mean, hfo1, hy_ia, hy_tn, hy_un, hpb, z_wide]) (fun k hk => g1_n (by omega)) (g1_s _ _ _) (z_plk (g1_n (by decide)) hp)) dX11_mean_43
theorem mlRX11_227 : Cond.methodLink RX11 227 yX6_waysWithin ∈ zU := zU_m 670 (by decide +kernel) rfl
theorem coX6_waysWithin : Cond.code yX6_waysWithin cX6_waysWithin 9 (some .long) ∈ zU := zU_m 672 (by decide +kernel) rfl
theorem stX6_waysWithin : Cond.static yX6_waysWithin ∈ zU := zU_m 671 (by decide +kernel) rfl
theorem mlRX11_233 : Cond.methodLink RX11 233 yX6_power ∈ zU := zU_m 676 (by decide +kernel) rfl
set_option maxHeartbeats 4000000 in
set_option maxRecDepth 100000 in
theorem c_X11_puncture (l : Launch) (E : zE) (G : zG) (r : Nat → Int32) (n na : Nat) (athlete t u v part : Int32) (hR : zFA G 1 r n na) (hn10 : n ≤ 10) (hna : na ≤ 5) (hp : zPl G) (hkd : zKd r n) (hV : zVr r n na) : zMl l yX11_puncture wsX11_puncture ({ frames := 5, cells := 0, slots := 0, locals := 111 } : Room) E G [.ref (E.1 0), .int athlete, .int t, .int u, .int v, .int part] (fun r1 G1 => zLc (A_punc r n na athlete t u v part) G r1 G1) := by
  refine zOf (cc := cX11_puncture) (nL := 11) (ret := (some .long)) RX11 (by decide) rfl rfl (Nat.le_of_ble_eq_true rfl) ?_
  intro p_ e_ s_ m_ a_ b_ me_ c_ ls C0 hP hS hl
  have hx := C0.1
  have hb := C0.2.1
  have hts := C0.2.2.2.2.1
  have hD : zD E (zA E s_.heap.size) := C0.2.2.2.2.2.2.2.2
  have hA : ∀ q : Nat, s_.heap.size ≤ q → zA E s_.heap.size q := fun q h => Or.inr h
  refine z_gen (fun Q_ hQ_ => ?_)
  have hl : lv_has ls 11 [(0, .ref (E.1 0)), (1, .int athlete), (2, .int t), (3, .int u), (4, .int v), (5, .int part)] := hl
  refine lv_aload_n hx hb dX11_puncture_0 rfl (lv_at hl 0 rfl) ?_
  refine lv_iload_n hx hb dX11_puncture_1 rfl (lv_at hl 1 rfl) ?_
  refine lv_iload_n hx hb dX11_puncture_2 rfl (lv_at hl 2 rfl) ?_
  refine lv_iload_n hx hb dX11_puncture_3 rfl (lv_at hl 3 rfl) ?_
  refine lv_iload hx hb dX11_puncture_4 (lv_at hl 4 rfl) ?_
  refine z_Vi C0 hP hD hA hS (As := [.int athlete, .int t, .int u, .int v]) (rest := []) (k := 0) (c_X11_refusalOfOdds l E _ r n na athlete t u v hR hn10 hna) (cwV 4 hts (zgV zbw mlRX11_215 imX11_refusalOfOdds seX11_refusalOfOdds iniRX11 coX11_refusalOfOdds) rfl rfl rfl (by decide +kernel) ⟨Nat.le_of_ble_eq_true rfl, Nat.le_of_ble_eq_true rfl⟩) (zk_lt (rfl : zk 0 = 9) (by decide)) (zd_9 E (rfl : zk 0 = 9) _) rfl rfl rfl hl.1 rfl (Nat.le_of_ble_eq_true rfl) dX11_puncture_6 ⟨Nat.zero_le _, Nat.zero_le _⟩ (fun r1 G1 H locs hw1 hP hS => ?_)
  rcases hw1 with ⟨rfl, rfl, hfo1⟩ | ⟨rfl, rfl, hfo1⟩ | ⟨rfl, rfl, hfo1⟩ | ⟨rfl, rfl, hfo1, ⟨ia, hia, rfl⟩, ⟨tn, htn, rfl⟩, ⟨un, hun, rfl⟩, ⟨vn, hvn, rfl⟩⟩
  · skip
    refine lv_istore (lv' := [(6, .int (-1 : Int32)), (0, .ref (E.1 0)), (1, .int athlete), (2, .int t), (3, .int u), (4, .int v), (5, .int part)]) hx hb dX11_puncture_9 hl (by decide) rfl (fun ls hl => ?_)
    refine lv_iload hx hb dX11_puncture_11 (lv_at hl 0 rfl) ?_
    refine lv_if_ne (tgt := 28) hx hb dX11_puncture_13 (by decide) (fun _ => ?_) (fun h_ => absurd h_ (by decide))
    refine lv_iload hx hb dX11_puncture_28 (lv_at hl 0 rfl) ?_
    refine lv_if_eq (tgt := 45) hx hb dX11_puncture_30 (by decide) (fun h_ => absurd h_ (by decide)) (fun _ => ?_)
    refine lv_ldc2 (v := (4000000000000000000 : Int64)) hx hb C0.2.2.2.1 (hts _ (zm kkRX11_222)) dX11_puncture_33 ?_
    refine lv_aload_n hx hb dX11_puncture_36 rfl (lv_at hl 1 rfl) ?_
    refine lv_iload hx hb dX11_puncture_37 (lv_at hl 0 rfl) ?_
    refine z_Vi C0 hP hD hA hS (As := [.int (-1 : Int32)]) (rest := [.long (4000000000000000000 : Int64)]) (k := 0) (c_X11_refuse l E _ (-1 : Int32) 1 (by decide) (by decide) (by decide)) (cwV 1 hts (zgV zbw mlRX11_72 imX11_refuse seX11_refuse iniRX11 coX11_refuse) rfl rfl rfl (by decide +kernel) ⟨Nat.le_of_ble_eq_true rfl, Nat.le_of_ble_eq_true rfl⟩) (zk_lt (rfl : zk 0 = 9) (by decide)) (zd_9 E (rfl : zk 0 = 9) _) rfl rfl rfl hl.1 rfl (Nat.le_of_ble_eq_true rfl) dX11_puncture_39 ⟨Nat.zero_le _, Nat.zero_le _⟩ (fun r2 G2 H locs hw2 hP hS => ?_)
    obtain ⟨rfl, rfl⟩ := hw2
    refine lv_i2l (v := ((-1 : Int32).toInt64)) hx hb dX11_puncture_42 rfl ?_
    refine lv_lsub hx hb dX11_puncture_43 ?_
    subst hQ_
    exact z_lret C0 hP hS (v := ((4000000000000000000 : Int64) - ((-1 : Int32).toInt64))) (by exact zLc_of (k := 1) (by simp [A_punc, hfo1, z_wide]) (fun k hk => g1_n (by omega)) (g1_s _ _ _) (z_plk (g1_n (by decide)) hp)) dX11_puncture_44
  · skip
    refine lv_istore (lv' := [(6, .int (-4 : Int32)), (0, .ref (E.1 0)), (1, .int athlete), (2, .int t), (3, .int u), (4, .int v), (5, .int part)]) hx hb dX11_puncture_9 hl (by decide) rfl (fun ls hl => ?_)
    refine lv_iload hx hb dX11_puncture_11 (lv_at hl 0 rfl) ?_
    refine lv_if_ne (tgt := 28) hx hb dX11_puncture_13 (by decide) (fun _ => ?_) (fun h_ => absurd h_ (by decide))
    refine lv_iload hx hb dX11_puncture_28 (lv_at hl 0 rfl) ?_
    refine lv_if_eq (tgt := 45) hx hb dX11_puncture_30 (by decide) (fun h_ => absurd h_ (by decide)) (fun _ => ?_)
    refine lv_ldc2 (v := (4000000000000000000 : Int64)) hx hb C0.2.2.2.1 (hts _ (zm kkRX11_222)) dX11_puncture_33 ?_
    refine lv_aload_n hx hb dX11_puncture_36 rfl (lv_at hl 1 rfl) ?_
    refine lv_iload hx hb dX11_puncture_37 (lv_at hl 0 rfl) ?_
    refine z_Vi C0 hP hD hA hS (As := [.int (-4 : Int32)]) (rest := [.long (4000000000000000000 : Int64)]) (k := 0) (c_X11_refuse l E _ (-4 : Int32) 4 (by decide) (by decide) (by decide)) (cwV 1 hts (zgV zbw mlRX11_72 imX11_refuse seX11_refuse iniRX11 coX11_refuse) rfl rfl rfl (by decide +kernel) ⟨Nat.le_of_ble_eq_true rfl, Nat.le_of_ble_eq_true rfl⟩) (zk_lt (rfl : zk 0 = 9) (by decide)) (zd_9 E (rfl : zk 0 = 9) _) rfl rfl rfl hl.1 rfl (Nat.le_of_ble_eq_true rfl) dX11_puncture_39 ⟨Nat.zero_le _, Nat.zero_le _⟩ (fun r3 G3 H locs hw3 hP hS => ?_)
    obtain ⟨rfl, rfl⟩ := hw3
    refine lv_i2l (v := ((-4 : Int32).toInt64)) hx hb dX11_puncture_42 rfl ?_
    refine lv_lsub hx hb dX11_puncture_43 ?_
    subst hQ_
    exact z_lret C0 hP hS (v := ((4000000000000000000 : Int64) - ((-4 : Int32).toInt64))) (by exact zLc_of (k := 4) (by simp [A_punc, hfo1, z_wide]) (fun k hk => g1_n (by omega)) (g1_s _ _ _) (z_plk (g1_n (by decide)) hp)) dX11_puncture_44
  · skip
    refine lv_istore (lv' := [(6, .int (-6 : Int32)), (0, .ref (E.1 0)), (1, .int athlete), (2, .int t), (3, .int u), (4, .int v), (5, .int part)]) hx hb dX11_puncture_9 hl (by decide) rfl (fun ls hl => ?_)
    refine lv_iload hx hb dX11_puncture_11 (lv_at hl 0 rfl) ?_
    refine lv_if_ne (tgt := 28) hx hb dX11_puncture_13 (by decide) (fun _ => ?_) (fun h_ => absurd h_ (by decide))
    refine lv_iload hx hb dX11_puncture_28 (lv_at hl 0 rfl) ?_
    refine lv_if_eq (tgt := 45) hx hb dX11_puncture_30 (by decide) (fun h_ => absurd h_ (by decide)) (fun _ => ?_)
    refine lv_ldc2 (v := (4000000000000000000 : Int64)) hx hb C0.2.2.2.1 (hts _ (zm kkRX11_222)) dX11_puncture_33 ?_
    refine lv_aload_n hx hb dX11_puncture_36 rfl (lv_at hl 1 rfl) ?_
    refine lv_iload hx hb dX11_puncture_37 (lv_at hl 0 rfl) ?_
    refine z_Vi C0 hP hD hA hS (As := [.int (-6 : Int32)]) (rest := [.long (4000000000000000000 : Int64)]) (k := 0) (c_X11_refuse l E _ (-6 : Int32) 6 (by decide) (by decide) (by decide)) (cwV 1 hts (zgV zbw mlRX11_72 imX11_refuse seX11_refuse iniRX11 coX11_refuse) rfl rfl rfl (by decide +kernel) ⟨Nat.le_of_ble_eq_true rfl, Nat.le_of_ble_eq_true rfl⟩) (zk_lt (rfl : zk 0 = 9) (by decide)) (zd_9 E (rfl : zk 0 = 9) _) rfl rfl rfl hl.1 rfl (Nat.le_of_ble_eq_true rfl) dX11_puncture_39 ⟨Nat.zero_le _, Nat.zero_le _⟩ (fun r4 G4 H locs hw4 hP hS => ?_)
    obtain ⟨rfl, rfl⟩ := hw4
    refine lv_i2l (v := ((-6 : Int32).toInt64)) hx hb dX11_puncture_42 rfl ?_
    refine lv_lsub hx hb dX11_puncture_43 ?_
    subst hQ_
    exact z_lret C0 hP hS (v := ((4000000000000000000 : Int64) - ((-6 : Int32).toInt64))) (by exact zLc_of (k := 6) (by simp [A_punc, hfo1, z_wide]) (fun k hk => g1_n (by omega)) (g1_s _ _ _) (z_plk (g1_n (by decide)) hp)) dX11_puncture_44
  · skip
    have hy_ia : zix (nI ia) = ia := zix_n (by omega)
    have hy_tn : zix (nI tn) = tn := zix_n (by omega)
    have hy_un : zix (nI un) = un := zix_n (by omega)
    have hy_vn : zix (nI vn) = vn := zix_n (by omega)
    refine lv_istore (lv' := [(6, .int (0 : Int32)), (0, .ref (E.1 0)), (1, .int (nI ia)), (2, .int (nI tn)), (3, .int (nI un)), (4, .int (nI vn)), (5, .int part)]) hx hb dX11_puncture_9 hl (by decide) rfl (fun ls hl => ?_)
    refine lv_iload hx hb dX11_puncture_11 (lv_at hl 0 rfl) ?_
    refine lv_if_ne (tgt := 28) hx hb dX11_puncture_13 (by decide) (fun h_ => absurd (by decide) h_) (fun _ => ?_)
    refine lv_iload hx hb dX11_puncture_16 (lv_at hl 6 rfl) ?_
    refine z_Si C0 hP hD hA hS (As := [.int part]) (rest := []) (c_X11_isPart l E _ part) (va_cwS 1 hts (zgS zbw mlRX11_219 stX11_isPart iniRX11 coX11_isPart) rfl rfl rfl (by decide +kernel) ⟨Nat.le_of_ble_eq_true rfl, Nat.le_of_ble_eq_true rfl⟩) rfl hl.1 rfl (Nat.le_of_ble_eq_true rfl) dX11_puncture_18 ⟨Nat.zero_le _, Nat.zero_le _⟩ (fun r5 G5 H locs hw5 hP hS => ?_)
    rcases hw5 with ⟨rfl, rfl, hpt5⟩ | ⟨rfl, rfl, hpb⟩
    · skip
      have hpb : z_part part = true := decide_eq_true hpt5
      refine lv_if_ne (tgt := 28) hx hb dX11_puncture_21 (by decide) (fun _ => ?_) (fun h_ => absurd h_ (by decide))
      refine lv_iload hx hb dX11_puncture_28 (lv_at hl 0 rfl) ?_
      refine lv_if_eq (tgt := 45) hx hb dX11_puncture_30 (by decide) (fun _ => ?_) (fun h_ => absurd (by decide) h_)
      refine lv_aload_n hx hb dX11_puncture_45 rfl (lv_at hl 1 rfl) ?_
      refine lv_iload_n hx hb dX11_puncture_46 rfl (lv_at hl 2 rfl) ?_
      refine z_Vi C0 hP hD hA hS (As := [.int (nI ia)]) (rest := []) (k := 0) (c_X11_runPlan l E _ r n na ia hR hkd hn10 hna (by omega)) (cwV 1 hts (zgV zbw mlRX11_142 imX11_runPlan seX11_runPlan iniRX11 coX11_runPlan) rfl rfl rfl (by decide +kernel) ⟨Nat.le_of_ble_eq_true rfl, Nat.le_of_ble_eq_true rfl⟩) (zk_lt (rfl : zk 0 = 9) (by decide)) (zd_9 E (rfl : zk 0 = 9) _) rfl rfl rfl hl.1 rfl (Nat.le_of_ble_eq_true rfl) dX11_puncture_47 ⟨Nat.zero_le _, Nat.zero_le _⟩ (fun r6 G6 H locs hw6 hP hS => ?_)
      obtain ⟨hr6, hF6, hTA6, hdr6, h36⟩ := hw6
      obtain ⟨fn, hfn, hfe, hfc⟩ := q_fin_e hV hia hn10
      have hq9 := q_rides_le r n
      have hr6 : nI fn = _ := hfe.symm.trans hr6
      subst hr6
      refine lv_istore (lv' := [(7, .int (nI fn)), (6, .int (0 : Int32)), (0, .ref (E.1 0)), (1, .int (nI ia)), (2, .int (nI tn)), (3, .int (nI un)), (4, .int (nI vn)), (5, .int part)]) hx hb dX11_puncture_50 hl (by decide) rfl (fun ls hl => ?_)
      refine lv_aload_n hx hb dX11_puncture_52 rfl (lv_at hl 2 rfl) ?_
      refine z_get C0 hP (C := RX11) (T := TX11) (N := 11) (ci := 9) (index := 10) (k := 0) (ref := "WetSuitPedalsShoes") (zk_lt (rfl : zk 0 = 9) (by decide)) (zd_9 E (rfl : zk 0 = 9) _) rfl (zmi inU_11) 0 (by decide) (zm flRX11_10) rfl (v := .ref (E.1 1)) (rfl) dX11_puncture_53 ?_
      refine z_get C0 hP (C := RX3) (T := TX3) (N := 3) (ci := 3) (index := 93) (k := 1) (ref := "WetSuitPedalsShoes$Field") (zk_lt (rfl : zk 1 = 3) (by decide)) (zd_3 E (rfl : zk 1 = 3) _) rfl (zmi inU_3) 0 (by decide) (zm flRX11_93) rfl (v := .ref (E.1 2)) (rfl) dX11_puncture_56 ?_
      refine z_Vi C0 hP hD hA hS (As := []) (rest := []) (k := 2) (c_X1_rides l E _ r n na (zFA_fr hR (fun k hk => hF6 k (by omega)) hna) hn10 hna) (cwV 0 hts (zgV zbw mlRX11_224 imX1_rides seX1_rides iniRX1 coX1_rides) rfl rfl rfl (by decide +kernel) ⟨Nat.le_of_ble_eq_true rfl, Nat.le_of_ble_eq_true rfl⟩) (zk_lt (rfl : zk 2 = 1) (by decide)) (zd_1 E (rfl : zk 2 = 1) _) rfl rfl rfl hl.1 rfl (Nat.le_of_ble_eq_true rfl) dX11_puncture_59 ⟨Nat.zero_le _, Nat.zero_le _⟩ (fun r7 G7 H locs hw7 hP hS => ?_)
      obtain ⟨hr7, rfl⟩ := hw7
      subst hr7
      refine lv_istore (lv' := [(8, .int (nI (q_rides r n))), (7, .int (nI fn)), (6, .int (0 : Int32)), (0, .ref (E.1 0)), (1, .int (nI ia)), (2, .int (nI tn)), (3, .int (nI un)), (4, .int (nI vn)), (5, .int part)]) hx hb dX11_puncture_62 hl (by decide) rfl (fun ls hl => ?_)
      refine lv_iload hx hb dX11_puncture_64 (lv_at hl 0 rfl) ?_
      refine lv_iload_n hx hb dX11_puncture_66 rfl (lv_at hl 5 rfl) ?_
      refine lv_iload_n hx hb dX11_puncture_67 rfl (lv_at hl 6 rfl) ?_
      refine lv_iload hx hb dX11_puncture_68 (lv_at hl 7 rfl) ?_
      refine lv_iload hx hb dX11_puncture_70 (lv_at hl 1 rfl) ?_
      refine lv_isub hx hb dX11_puncture_72 ?_
      refine z_Sl C0 hP hD hA hS (As := [.int (nI (q_rides r n)), .int (nI tn), .int (nI un), .int ((nI vn) - (nI fn))]) (rest := []) (c_X6_waysWithin l E _ (q_rides r n) tn un vn fn (by omega) htn hun hvn hfn) (va_cwS 4 hts (zgS zbw mlRX11_227 stX6_waysWithin iniRX6 coX6_waysWithin) rfl rfl rfl (by decide +kernel) ⟨Nat.le_of_ble_eq_true rfl, Nat.le_of_ble_eq_true rfl⟩) rfl hl.1 rfl (Nat.le_of_ble_eq_true rfl) dX11_puncture_73 ⟨Nat.zero_le _, Nat.zero_le _⟩ (fun r8 G8 H locs hw8 hP hS => ?_)
      obtain ⟨hr8, rfl⟩ := hw8
      subst hr8
      refine lv_lstore (lv' := [(9, .long (lN (o_ways (q_rides r n) tn un vn fn))), (8, .int (nI (q_rides r n))), (7, .int (nI fn)), (6, .int (0 : Int32)), (0, .ref (E.1 0)), (1, .int (nI ia)), (2, .int (nI tn)), (3, .int (nI un)), (4, .int (nI vn)), (5, .int part)]) hx hb dX11_puncture_76 hl (by decide) rfl (fun ls hl => ?_)
      refine lv_lload hx hb dX11_puncture_78 (lv_at hl 0 rfl) ?_
      refine lv_iload_n hx hb dX11_puncture_80 rfl (lv_at hl 6 rfl) ?_
      refine lv_i2l (v := (lN tn)) hx hb dX11_puncture_81 (nI_l (by omega)) ?_
      refine lv_iload hx hb dX11_puncture_82 (lv_at hl 1 rfl) ?_
      refine z_Sl C0 hP hD hA hS (As := [.long (lN tn), .int (nI (q_rides r n))]) (rest := [.long (lN (o_ways (q_rides r n) tn un vn fn))]) (c_X6_power l E _ (lN tn) (q_rides r n) (by omega)) (va_cwS 2 hts (zgS zbw mlRX11_233 stX6_power iniRX6 coX6_power) rfl rfl rfl (by decide +kernel) ⟨Nat.le_of_ble_eq_true rfl, Nat.le_of_ble_eq_true rfl⟩) rfl hl.1 rfl (Nat.le_of_ble_eq_true rfl) dX11_puncture_84 ⟨Nat.zero_le _, Nat.zero_le _⟩ (fun r9 G9 H locs hw9 hP hS => ?_)
      obtain ⟨hr9, rfl⟩ := hw9
      have hr9 : lN (tn ^ q_rides r n) = _ := (l_pow_n _ _).symm.trans hr9
      subst hr9
      refine lv_iload hx hb dX11_puncture_87 (lv_at hl 9 rfl) ?_
      refine z_Sl C0 hP hD hA hS (As := [.long (lN (o_ways (q_rides r n) tn un vn fn)), .long (lN (tn ^ q_rides r n)), .int part]) (rest := []) (c_X6_partInLeastTerms l E _ (o_ways (q_rides r n) tn un vn fn) (tn ^ q_rides r n) part (Nat.lt_trans (o_ways_b (by omega) htn.2) (by decide)) (o_pow_b (by omega) htn).1 (o_pow_b (by omega) htn).2) (va_cwS 3 hts (zgS zbw mlRX11_237 stX6_partInLeastTerms iniRX6 coX6_partInLeastTerms) rfl rfl rfl (by decide +kernel) ⟨Nat.le_of_ble_eq_true rfl, Nat.le_of_ble_eq_true rfl⟩) rfl hl.1 rfl (Nat.le_of_ble_eq_true rfl) dX11_puncture_89 ⟨Nat.zero_le _, Nat.zero_le _⟩ (fun r10 G10 H locs hw10 hP hS => ?_)
      obtain ⟨hr10, rfl⟩ := hw10
      subst hr10
      subst hQ_
      exact z_lret C0 hP hS (v := (q_part (o_ways (q_rides r n) tn un vn fn) (tn ^ q_rides r n) part)) (by exact zLc_of (k := 0) (by simp [A_punc, hfo1, hy_ia, hy_tn, hy_un, hy_vn, hpb, hfc, q_ml]) (fun k hk => hF6 k (by omega)) (hF6 _ (by decide)) (z_plk (hF6 _ (by decide)) hp)) dX11_puncture_92
    · skip
      refine lv_if_ne (tgt := 28) hx hb dX11_puncture_21 (by decide) (fun h_ => absurd (by decide) h_) (fun _ => ?_)
      refine lv_bipush (v := (-2 : Int32)) hx hb dX11_puncture_24 (by decide) ?_
      refine lv_istore (lv' := [(6, .int (-2 : Int32)), (0, .ref (E.1 0)), (1, .int (nI ia)), (2, .int (nI tn)), (3, .int (nI un)), (4, .int (nI vn)), (5, .int part)]) hx hb dX11_puncture_26 hl (by decide) rfl (fun ls hl => ?_)
      refine lv_iload hx hb dX11_puncture_28 (lv_at hl 0 rfl) ?_
      refine lv_if_eq (tgt := 45) hx hb dX11_puncture_30 (by decide) (fun h_ => absurd h_ (by decide)) (fun _ => ?_)
      refine lv_ldc2 (v := (4000000000000000000 : Int64)) hx hb C0.2.2.2.1 (hts _ (zm kkRX11_222)) dX11_puncture_33 ?_
      refine lv_aload_n hx hb dX11_puncture_36 rfl (lv_at hl 1 rfl) ?_
      refine lv_iload hx hb dX11_puncture_37 (lv_at hl 0 rfl) ?_
      refine z_Vi C0 hP hD hA hS (As := [.int (-2 : Int32)]) (rest := [.long (4000000000000000000 : Int64)]) (k := 0) (c_X11_refuse l E _ (-2 : Int32) 2 (by decide) (by decide) (by decide)) (cwV 1 hts (zgV zbw mlRX11_72 imX11_refuse seX11_refuse iniRX11 coX11_refuse) rfl rfl rfl (by decide +kernel) ⟨Nat.le_of_ble_eq_true rfl, Nat.le_of_ble_eq_true rfl⟩) (zk_lt (rfl : zk 0 = 9) (by decide)) (zd_9 E (rfl : zk 0 = 9) _) rfl rfl rfl hl.1 rfl (Nat.le_of_ble_eq_true rfl) dX11_puncture_39 ⟨Nat.zero_le _, Nat.zero_le _⟩ (fun r11 G11 H locs hw11 hP hS => ?_)
      obtain ⟨rfl, rfl⟩ := hw11
      refine lv_i2l (v := ((-2 : Int32).toInt64)) hx hb dX11_puncture_42 rfl ?_
      refine lv_lsub hx hb dX11_puncture_43 ?_
      subst hQ_
      exact z_lret C0 hP hS (v := ((4000000000000000000 : Int64) - ((-2 : Int32).toInt64))) (by exact zLc_of (k := 2) (by simp [A_punc, hfo1, hy_ia, hy_tn, hy_un, hy_vn, hpb, z_wide]) (fun k hk => g1_n (by omega)) (g1_s _ _ _) (z_plk (g1_n (by decide)) hp)) dX11_puncture_44
