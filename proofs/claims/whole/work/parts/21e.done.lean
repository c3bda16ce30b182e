/-! laid by wip/whole/vcg.py -/
set_option maxHeartbeats 4000000 in
set_option maxRecDepth 100000 in
theorem c_X12_isDone (l : Launch) (E : zE) (G : zG) (L : Nat → Int32) (s e : Nat) (r : Nat → Int32) (n na : Nat) (hM : G 93 = r) (hrn : r 0 = nI n) (hrna : r 1 = nI na) (hn10 : n ≤ 10) (hna : na ≤ 5) (hg : gram L s e) (heK : e < 96) (hmm : G 92 15 = nI (e - s - 1)) (hN0 : L s = 115 → G 103 0 = c_kind (L (s + 1))) (hNd : ∀ j, s + 1 + j < e → (L s = 115 → 1 ≤ j) → G 103 j = nI (dn L (s + 1 + j))) : zMi l yX12_isDone wsX12_isDone ({ frames := 2, cells := 0, slots := 0, locals := 46 } : Room) E G [.ref (E.1 92), .int (L s)] (fun r1 G1 => (1 = r1 ∧ d_ok L s e n na = true ∧ (∀ k, k ≠ 93 → G1 k = G k) ∧ G1 93 = d_row L s e r n na) ∨ (0 = r1 ∧ ¬ d_ok L s e n na = true ∧ ∀ k, k ≠ 93 → G1 k = G k)) := by
  refine zOf (cc := cX12_isDone) (nL := 5) (ret := (some .boolean)) RX12 (by decide) rfl rfl (Nat.le_of_ble_eq_true rfl) ?_
  intro p_ e_ s_ m_ a_ b_ me_ c_ ls C0 hP hS hl
  have hx := C0.1
  have hb := C0.2.1
  have hts := C0.2.2.2.2.1
  have hD : zD E (zA E s_.heap.size) := C0.2.2.2.2.2.2.2.2
  have hA : ∀ q : Nat, s_.heap.size ≤ q → zA E s_.heap.size q := fun q h => Or.inr h
  have hse := hg.2.1
  refine z_gen (fun Q_ hQ_ => ?_)
  have hl : lv_has ls 5 [(0, .ref (E.1 92)), (1, .int (L s))] := hl
  refine lv_aload_n hx hb dX12_isDone_0 rfl (lv_at hl 0 rfl) ?_
  refine z_get C0 hP (C := RX12) (T := TX12) (N := 21) (ci := 10) (index := 40) (k := 92) (ref := "WetSuitPedalsShoesModel") (zk_lt (rfl : zk 92 = 10) (by decide)) (zd_10 E (rfl : zk 92 = 10) _) rfl (zmi inU_12) 14 (by decide) (zm flRX12_40) rfl (v := .ref (E.1 103)) (rfl) dX12_isDone_1 ?_
  refine lv_iconst (v := (0 : Int32)) hx hb dX12_isDone_4 (by decide) ?_
  refine z_iald C0 hP (k := 103) (i := 0) (v := (G 103 0)) (rfl : zk 103 = 11) (Nat.lt_of_lt_of_eq (show 0 < 12 by decide) (rfl : zl 103 = 12).symm) rfl dX12_isDone_5 (rfl) ?_
  refine lv_istore_n (lv' := [(2, .int (G 103 0)), (0, .ref (E.1 92)), (1, .int (L s))]) hx hb dX12_isDone_6 rfl hl (by decide) rfl (fun ls hl => ?_)
  refine lv_aload_n hx hb dX12_isDone_7 rfl (lv_at hl 1 rfl) ?_
  refine z_get C0 hP (C := RX12) (T := TX12) (N := 21) (ci := 10) (index := 40) (k := 92) (ref := "WetSuitPedalsShoesModel") (zk_lt (rfl : zk 92 = 10) (by decide)) (zd_10 E (rfl : zk 92 = 10) _) rfl (zmi inU_12) 14 (by decide) (zm flRX12_40) rfl (v := .ref (E.1 103)) (rfl) dX12_isDone_8 ?_
  refine lv_iconst (v := (1 : Int32)) hx hb dX12_isDone_11 (by decide) ?_
  refine z_iald C0 hP (k := 103) (i := 1) (v := (G 103 1)) (rfl : zk 103 = 11) (Nat.lt_of_lt_of_eq (show 1 < 12 by decide) (rfl : zl 103 = 12).symm) rfl dX12_isDone_12 (rfl) ?_
  refine lv_istore_n (lv' := [(3, .int (G 103 1)), (2, .int (G 103 0)), (0, .ref (E.1 92)), (1, .int (L s))]) hx hb dX12_isDone_13 rfl hl (by decide) rfl (fun ls hl => ?_)
  refine lv_iload_n hx hb dX12_isDone_14 rfl (lv_at hl 3 rfl) ?_
  by_cases e97_15 : (L s) = (97 : Int32)
  · skip
    refine lv_lookup (tgt := 129) (off := 114) hx hb dX12_isDone_15 (by decide) (by rw [e97_15]; rfl) (by decide) ?_
    have h15 : ¬ L s = 115 := z_hne e97_15 (by decide)
    have gd := gram_d hg h15
    have gq1 := gram_97 hg e97_15
    have hdl := d_ok_97 (L := L) (s := s) (e := e) (n := n) (na := na) e97_15
    have hNk : ∀ k, k < 3 → G 103 k = d_N L s k := fun k hk => by rw [d_N_n h15]; exact hNd k (by omega) (fun z => absurd z h15)
    have q1 := dn_e (gd (s + 1) (by omega) (by omega))
    have q2 := dn_e (gd (s + 2) (by omega) (by omega))
    have q3 := dn_e (gd (s + 3) (by omega) (by omega))
    have q4 := dn_e (gd (s + 4) (by omega) (by omega))
    have q5 := dn_e (gd (s + 5) (by omega) (by omega))
    refine lv_aload_n hx hb dX12_isDone_129 rfl (lv_at hl 2 rfl) ?_
    refine z_get C0 hP (C := RX12) (T := TX12) (N := 21) (ci := 10) (index := 9) (k := 92) (ref := "WetSuitPedalsShoesModel") (zk_lt (rfl : zk 92 = 10) (by decide)) (zd_10 E (rfl : zk 92 = 10) _) rfl (zmi inU_12) 0 (by decide) (zm flRX12_9) rfl (v := .ref (E.1 93)) (rfl) dX12_isDone_130 ?_
    refine lv_iconst (v := (1 : Int32)) hx hb dX12_isDone_133 (by decide) ?_
    refine z_iald C0 hP (k := 93) (i := 1) (v := (nI na)) (rfl : zk 93 = 11) (Nat.lt_of_lt_of_eq (show 1 < 102 by decide) (rfl : zl 93 = 102).symm) rfl dX12_isDone_134 ((congrFun (hM) _).trans (hrna)) ?_
    refine lv_iconst (v := (5 : Int32)) hx hb dX12_isDone_135 (by decide) ?_
    refine z_N_ne hx hb (a := na) (b := 5) (tgt := 141) dX12_isDone_136 rfl rfl (by omega) (by omega) (by decide) (fun c_136 => ?_) (fun c_136 => ?_)
    · skip
      refine lv_iconst (v := (0 : Int32)) hx hb dX12_isDone_141 (by decide) ?_
      refine lv_istore (lv' := [(4, .int (0 : Int32)), (3, .int (G 103 1)), (2, .int (G 103 0)), (0, .ref (E.1 92)), (1, .int (L s))]) hx hb dX12_isDone_142 hl (by decide) rfl (fun ls hl => ?_)
      have cut_144 : ∀ (fuel : Nat), ∀ (k : Nat) (f : Nat → Int32) (H : Heap) (locs : List Loc) (ls : Array Slot), (k ≤ 3) → (f = s3 r (32 + 4 * na) (d_N L s) k) → (f 0 = r 0) → (f 1 = r 1) → zP E (g1 G 93 f) H → va_S (zA E s_.heap.size) s_.heap H locs → lv_has ls 5 [(0, .ref (E.1 92)), (1, .int (L s)), (4, .int (nI k))] → 3 - k < fuel → W p_ l e_ ({ frames := 2, cells := 0, slots := 0, locals := 46 } : Room) s_ m_ a_ b_ me_ c_ H locs 0 0 Q_ (F0 m_ 144 ls []) := by
        intro fuel
        induction fuel with
        | zero =>
          intro k  f  H locs ls hk hf hf0 hf1 hP hS hl hfu
          exact absurd hfu (Nat.not_lt_zero _)
        | succ fuel ih_144 =>
          intro k  f  H locs ls hk hf hf0 hf1 hP hS hl hfu_144
          refine lv_iload hx hb dX12_isDone_144 (lv_at hl 2 rfl) ?_
          refine lv_iconst (v := (3 : Int32)) hx hb dX12_isDone_146 (by decide) ?_
          refine z_N_ge hx hb (a := k) (b := 3) (tgt := 179) dX12_isDone_147 rfl rfl (by omega) (by omega) (by decide) (fun c_147 => ?_) (fun c_147 => ?_)
          · skip
            refine lv_aload_n hx hb dX12_isDone_179 rfl (lv_at hl 0 rfl) ?_
            refine z_get C0 hP (C := RX12) (T := TX12) (N := 21) (ci := 10) (index := 9) (k := 92) (ref := "WetSuitPedalsShoesModel") (zk_lt (rfl : zk 92 = 10) (by decide)) (zd_10 E (rfl : zk 92 = 10) _) rfl (zmi inU_12) 0 (by decide) (zm flRX12_9) rfl (v := .ref (E.1 93)) (rfl) dX12_isDone_180 ?_
            refine lv_aload_n hx hb dX12_isDone_183 rfl (lv_at hl 0 rfl) ?_
            refine z_get C0 hP (C := RX12) (T := TX12) (N := 21) (ci := 10) (index := 9) (k := 92) (ref := "WetSuitPedalsShoesModel") (zk_lt (rfl : zk 92 = 10) (by decide)) (zd_10 E (rfl : zk 92 = 10) _) rfl (zmi inU_12) 0 (by decide) (zm flRX12_9) rfl (v := .ref (E.1 93)) (rfl) dX12_isDone_184 ?_
            refine lv_iconst (v := (1 : Int32)) hx hb dX12_isDone_187 (by decide) ?_
            refine z_iald C0 hP (k := 93) (i := 1) (v := (nI na)) (rfl : zk 93 = 11) (Nat.lt_of_lt_of_eq (show 1 < 102 by decide) (rfl : zl 93 = 102).symm) rfl dX12_isDone_188 ((congrFun (g1_s _ _ _) _).trans ((hf1.trans hrna))) ?_
            refine lv_iconst (v := (3 : Int32)) hx hb dX12_isDone_189 (by decide) ?_
            refine z_Si C0 hP hD hA hS (As := [.int (nI na), .int (3 : Int32)]) (rest := [.ref (E.1 93)]) (c_X12_athleteAt l E _ na 3) (va_cwS 2 hts (zgS zbw mlRX12_70 stX12_athleteAt iniRX12 coX12_athleteAt) rfl rfl rfl (by decide +kernel) ⟨Nat.le_of_ble_eq_true rfl, Nat.le_of_ble_eq_true rfl⟩) rfl hl.1 rfl (Nat.le_of_ble_eq_true rfl) dX12_isDone_190 ⟨Nat.zero_le _, Nat.zero_le _⟩ (fun r1 G1 H locs hw1 hP hS => ?_)
            obtain ⟨hr1, rfl⟩ := hw1
            subst hr1
            refine z_eqi (y := (nI (35 + 4 * na))) (congrArg nI (by omega)) ?_
            refine lv_bipush (v := (10 : Int32)) hx hb dX12_isDone_193 (by decide) ?_
            refine lv_aload_n hx hb dX12_isDone_195 rfl (lv_at hl 0 rfl) ?_
            refine z_get C0 hP (C := RX12) (T := TX12) (N := 21) (ci := 10) (index := 40) (k := 92) (ref := "WetSuitPedalsShoesModel") (zk_lt (rfl : zk 92 = 10) (by decide)) (zd_10 E (rfl : zk 92 = 10) _) rfl (zmi inU_12) 14 (by decide) (zm flRX12_40) rfl (v := .ref (E.1 103)) (rfl) dX12_isDone_196 ?_
            refine lv_iconst (v := (3 : Int32)) hx hb dX12_isDone_199 (by decide) ?_
            refine z_iald C0 hP (k := 103) (i := 3) (v := (nI (dn L (s + 4)))) (rfl : zk 103 = 11) (Nat.lt_of_lt_of_eq (show 3 < 12 by decide) (rfl : zl 103 = 12).symm) rfl dX12_isDone_200 ((congrFun (g1_n (by decide)) _).trans (hNd 3 (by omega) (fun z => absurd z h15))) ?_
            refine z_imul hx hb (a := 10) (b := dn L (s + 4)) (n := 10 * (dn L (s + 4))) dX12_isDone_201 rfl rfl rfl ?_
            refine lv_aload_n hx hb dX12_isDone_202 rfl (lv_at hl 0 rfl) ?_
            refine z_get C0 hP (C := RX12) (T := TX12) (N := 21) (ci := 10) (index := 40) (k := 92) (ref := "WetSuitPedalsShoesModel") (zk_lt (rfl : zk 92 = 10) (by decide)) (zd_10 E (rfl : zk 92 = 10) _) rfl (zmi inU_12) 14 (by decide) (zm flRX12_40) rfl (v := .ref (E.1 103)) (rfl) dX12_isDone_203 ?_
            refine lv_iconst (v := (4 : Int32)) hx hb dX12_isDone_206 (by decide) ?_
            refine z_iald C0 hP (k := 103) (i := 4) (v := (nI (dn L (s + 5)))) (rfl : zk 103 = 11) (Nat.lt_of_lt_of_eq (show 4 < 12 by decide) (rfl : zl 103 = 12).symm) rfl dX12_isDone_207 ((congrFun (g1_n (by decide)) _).trans (hNd 4 (by omega) (fun z => absurd z h15))) ?_
            refine z_iadd hx hb (a := 10 * (dn L (s + 4))) (b := dn L (s + 5)) (n := (10 * (dn L (s + 4))) + (dn L (s + 5))) dX12_isDone_208 rfl rfl rfl ?_
            refine z_iast C0 hP hD hS (k := 93) (i := 35 + 4 * na) (v := (nI ((10 * (dn L (s + 4))) + (dn L (s + 5))))) (F := f) (g1_s _ _ _) (rfl : zk 93 = 11) (Nat.lt_of_lt_of_eq (show 35 + 4 * na < 102 by omega) (rfl : zl 93 = 102).symm) rfl dX12_isDone_209 (fun H locs hP hS => ?_)
            have hP := zP_eq (g1_t _ _ _ _ : _ = (g1 G 93 (upd f (35 + 4 * na) (nI ((10 * (dn L (s + 4))) + (dn L (s + 5))))))) hP
            refine lv_iconst (v := (0 : Int32)) hx hb dX12_isDone_210 (by decide) ?_
            refine lv_istore (lv' := [(4, .int (0 : Int32)), (0, .ref (E.1 92)), (1, .int (L s))]) hx hb dX12_isDone_211 hl (by decide) rfl (fun ls hl => ?_)
            have cut_213 : ∀ (fuel : Nat), ∀ (i : Nat) (f2 : Nat → Int32) (H : Heap) (locs : List Loc) (ls : Array Slot), (i ≤ 10) → (f2 = o_row (upd f (35 + 4 * na) (nI (10 * dn L (s + 4) + dn L (s + 5)))) na i) → (f2 0 = r 0) → (f2 1 = r 1) → zP E (g1 G 93 f2) H → va_S (zA E s_.heap.size) s_.heap H locs → lv_has ls 5 [(0, .ref (E.1 92)), (1, .int (L s)), (4, .int (nI i))] → 10 - i < fuel → W p_ l e_ ({ frames := 2, cells := 0, slots := 0, locals := 46 } : Room) s_ m_ a_ b_ me_ c_ H locs 0 0 Q_ (F0 m_ 213 ls []) := by
              intro fuel
              induction fuel with
              | zero =>
                intro i  f2  H locs ls hi hf2 hg0 hg1 hP hS hl hfu
                exact absurd hfu (Nat.not_lt_zero _)
              | succ fuel ih_213 =>
                intro i  f2  H locs ls hi hf2 hg0 hg1 hP hS hl hfu_213
                refine lv_iload hx hb dX12_isDone_213 (lv_at hl 2 rfl) ?_
                refine lv_bipush (v := (10 : Int32)) hx hb dX12_isDone_215 (by decide) ?_
                refine z_N_ge hx hb (a := i) (b := 10) (tgt := 243) dX12_isDone_217 rfl rfl (by omega) (by omega) (by decide) (fun c_217 => ?_) (fun c_217 => ?_)
                · skip
                  refine lv_aload_n hx hb dX12_isDone_243 rfl (lv_at hl 0 rfl) ?_
                  refine z_get C0 hP (C := RX12) (T := TX12) (N := 21) (ci := 10) (index := 9) (k := 92) (ref := "WetSuitPedalsShoesModel") (zk_lt (rfl : zk 92 = 10) (by decide)) (zd_10 E (rfl : zk 92 = 10) _) rfl (zmi inU_12) 0 (by decide) (zm flRX12_9) rfl (v := .ref (E.1 93)) (rfl) dX12_isDone_244 ?_
                  refine lv_iconst (v := (1 : Int32)) hx hb dX12_isDone_247 (by decide) ?_
                  refine lv_dup2_11 hx hb dX12_isDone_248 rfl rfl ?_
                  refine z_iald C0 hP (k := 93) (i := 1) (v := (nI na)) (rfl : zk 93 = 11) (Nat.lt_of_lt_of_eq (show 1 < 102 by decide) (rfl : zl 93 = 102).symm) rfl dX12_isDone_249 ((congrFun (g1_s _ _ _) _).trans ((hg1.trans hrna))) ?_
                  refine lv_iconst (v := (1 : Int32)) hx hb dX12_isDone_250 (by decide) ?_
                  refine z_iadd hx hb (a := na) (b := 1) (n := na + 1) dX12_isDone_251 rfl rfl rfl ?_
                  refine z_iast C0 hP hD hS (k := 93) (i := 1) (v := (nI (na + 1))) (F := f2) (g1_s _ _ _) (rfl : zk 93 = 11) (Nat.lt_of_lt_of_eq (show 1 < 102 by decide) (rfl : zl 93 = 102).symm) rfl dX12_isDone_252 (fun H locs hP hS => ?_)
                  have hP := zP_eq (g1_t _ _ _ _ : _ = (g1 G 93 (upd f2 1 (nI (na + 1))))) hP
                  refine lv_iconst (v := (1 : Int32)) hx hb dX12_isDone_253 (by decide) ?_
                  subst hQ_
                  exact z_zret C0 hP hS (v := (1 : Int32)) (by decide) (by exact Or.inl ⟨rfl, by rw [hdl]; exact decide_eq_true (by omega), (fun k hk => g1_n (by omega)), (g1_s _ _ _).trans (by rw [d_row_97 h15 e97_15]; first | (rw [hf2, hf, show k = 3 by omega, show i = 10 by omega]; done) | rfl)⟩) dX12_isDone_254
                · skip
                  refine lv_aload_n hx hb dX12_isDone_220 rfl (lv_at hl 0 rfl) ?_
                  refine z_get C0 hP (C := RX12) (T := TX12) (N := 21) (ci := 10) (index := 9) (k := 92) (ref := "WetSuitPedalsShoesModel") (zk_lt (rfl : zk 92 = 10) (by decide)) (zd_10 E (rfl : zk 92 = 10) _) rfl (zmi inU_12) 0 (by decide) (zm flRX12_9) rfl (v := .ref (E.1 93)) (rfl) dX12_isDone_221 ?_
                  refine lv_aload_n hx hb dX12_isDone_224 rfl (lv_at hl 0 rfl) ?_
                  refine z_get C0 hP (C := RX12) (T := TX12) (N := 21) (ci := 10) (index := 9) (k := 92) (ref := "WetSuitPedalsShoesModel") (zk_lt (rfl : zk 92 = 10) (by decide)) (zd_10 E (rfl : zk 92 = 10) _) rfl (zmi inU_12) 0 (by decide) (zm flRX12_9) rfl (v := .ref (E.1 93)) (rfl) dX12_isDone_225 ?_
                  refine lv_iconst (v := (1 : Int32)) hx hb dX12_isDone_228 (by decide) ?_
                  refine z_iald C0 hP (k := 93) (i := 1) (v := (nI na)) (rfl : zk 93 = 11) (Nat.lt_of_lt_of_eq (show 1 < 102 by decide) (rfl : zl 93 = 102).symm) rfl dX12_isDone_229 ((congrFun (g1_s _ _ _) _).trans ((hg1.trans hrna))) ?_
                  refine lv_iload hx hb dX12_isDone_230 (lv_at hl 2 rfl) ?_
                  refine z_Si C0 hP hD hA hS (As := [.int (nI na), .int (nI i)]) (rest := [.ref (E.1 93)]) (c_X12_tried l E _ na i) (va_cwS 2 hts (zgS zbw mlRX12_91 stX12_tried iniRX12 coX12_tried) rfl rfl rfl (by decide +kernel) ⟨Nat.le_of_ble_eq_true rfl, Nat.le_of_ble_eq_true rfl⟩) rfl hl.1 rfl (Nat.le_of_ble_eq_true rfl) dX12_isDone_232 ⟨Nat.zero_le _, Nat.zero_le _⟩ (fun r2 G2 H locs hw2 hP hS => ?_)
                  obtain ⟨hr2, rfl⟩ := hw2
                  subst hr2
                  refine z_eqi (y := (nI (52 + 10 * na + i))) (congrArg nI (by omega)) ?_
                  refine lv_iconst (v := (1 : Int32)) hx hb dX12_isDone_235 (by decide) ?_
                  refine z_iast C0 hP hD hS (k := 93) (i := 52 + 10 * na + i) (v := (1 : Int32)) (F := f2) (g1_s _ _ _) (rfl : zk 93 = 11) (Nat.lt_of_lt_of_eq (show 52 + 10 * na + i < 102 by omega) (rfl : zl 93 = 102).symm) rfl dX12_isDone_236 (fun H locs hP hS => ?_)
                  have hP := zP_eq (g1_t _ _ _ _ : _ = (g1 G 93 (upd f2 (52 + 10 * na + i) (1 : Int32)))) hP
                  refine lv_iinc (v := (nI (i + 1))) (lv' := [(4, .int (nI (i + 1))), (0, .ref (E.1 92)), (1, .int (L s))]) hx hb dX12_isDone_237 hl (k := 2) rfl (z_inc (by decide)) (by decide) rfl (fun ls hl => ?_)
                  refine lv_goto (tgt := 213) hx hb dX12_isDone_240 (by decide) ?_
                  exact ih_213 (i + 1) (upd f2 (52 + 10 * na + i) (1 : Int32)) _ _ _ (by first | assumption | omega) (by rw [hf2]; rfl) (by rw [pk_un (by omega)]; exact hg0) (by rw [pk_un (by omega)]; exact hg1) hP hS (lv_sub hl [1, 2, 0] rfl) (by omega)
            exact cut_213 (_ + 1) 0 (upd f (35 + 4 * na) (nI ((10 * (dn L (s + 4))) + (dn L (s + 5))))) _ _ _ (by first | assumption | omega) (by rfl) (by rw [pk_un (by omega)]; exact hf0) (by rw [pk_un (by omega)]; exact hf1) hP hS (lv_sub hl [1, 2, 0] rfl) (Nat.lt_succ_self _)
          · skip
            refine lv_aload_n hx hb dX12_isDone_150 rfl (lv_at hl 0 rfl) ?_
            refine z_get C0 hP (C := RX12) (T := TX12) (N := 21) (ci := 10) (index := 9) (k := 92) (ref := "WetSuitPedalsShoesModel") (zk_lt (rfl : zk 92 = 10) (by decide)) (zd_10 E (rfl : zk 92 = 10) _) rfl (zmi inU_12) 0 (by decide) (zm flRX12_9) rfl (v := .ref (E.1 93)) (rfl) dX12_isDone_151 ?_
            refine lv_aload_n hx hb dX12_isDone_154 rfl (lv_at hl 0 rfl) ?_
            refine z_get C0 hP (C := RX12) (T := TX12) (N := 21) (ci := 10) (index := 9) (k := 92) (ref := "WetSuitPedalsShoesModel") (zk_lt (rfl : zk 92 = 10) (by decide)) (zd_10 E (rfl : zk 92 = 10) _) rfl (zmi inU_12) 0 (by decide) (zm flRX12_9) rfl (v := .ref (E.1 93)) (rfl) dX12_isDone_155 ?_
            refine lv_iconst (v := (1 : Int32)) hx hb dX12_isDone_158 (by decide) ?_
            refine z_iald C0 hP (k := 93) (i := 1) (v := (nI na)) (rfl : zk 93 = 11) (Nat.lt_of_lt_of_eq (show 1 < 102 by decide) (rfl : zl 93 = 102).symm) rfl dX12_isDone_159 ((congrFun (g1_s _ _ _) _).trans ((hf1.trans hrna))) ?_
            refine lv_iload hx hb dX12_isDone_160 (lv_at hl 2 rfl) ?_
            refine z_Si C0 hP hD hA hS (As := [.int (nI na), .int (nI k)]) (rest := [.ref (E.1 93)]) (c_X12_athleteAt l E _ na k) (va_cwS 2 hts (zgS zbw mlRX12_70 stX12_athleteAt iniRX12 coX12_athleteAt) rfl rfl rfl (by decide +kernel) ⟨Nat.le_of_ble_eq_true rfl, Nat.le_of_ble_eq_true rfl⟩) rfl hl.1 rfl (Nat.le_of_ble_eq_true rfl) dX12_isDone_162 ⟨Nat.zero_le _, Nat.zero_le _⟩ (fun r3 G3 H locs hw3 hP hS => ?_)
            obtain ⟨hr3, rfl⟩ := hw3
            subst hr3
            refine z_eqi (y := (nI (32 + 4 * na + k))) (congrArg nI (by omega)) ?_
            refine lv_aload_n hx hb dX12_isDone_165 rfl (lv_at hl 0 rfl) ?_
            refine z_get C0 hP (C := RX12) (T := TX12) (N := 21) (ci := 10) (index := 40) (k := 92) (ref := "WetSuitPedalsShoesModel") (zk_lt (rfl : zk 92 = 10) (by decide)) (zd_10 E (rfl : zk 92 = 10) _) rfl (zmi inU_12) 14 (by decide) (zm flRX12_40) rfl (v := .ref (E.1 103)) (rfl) dX12_isDone_166 ?_
            refine lv_iload hx hb dX12_isDone_169 (lv_at hl 2 rfl) ?_
            refine z_iald C0 hP (k := 103) (i := k) (v := (d_N L s k)) (rfl : zk 103 = 11) (Nat.lt_of_lt_of_eq (show k < 12 by omega) (rfl : zl 103 = 12).symm) rfl dX12_isDone_171 ((congrFun (g1_n (by decide)) _).trans (hNk k (by omega))) ?_
            refine z_iast C0 hP hD hS (k := 93) (i := 32 + 4 * na + k) (v := (d_N L s k)) (F := f) (g1_s _ _ _) (rfl : zk 93 = 11) (Nat.lt_of_lt_of_eq (show 32 + 4 * na + k < 102 by omega) (rfl : zl 93 = 102).symm) rfl dX12_isDone_172 (fun H locs hP hS => ?_)
            have hP := zP_eq (g1_t _ _ _ _ : _ = (g1 G 93 (upd f (32 + 4 * na + k) (d_N L s k)))) hP
            refine lv_iinc (v := (nI (k + 1))) (lv' := [(4, .int (nI (k + 1))), (0, .ref (E.1 92)), (1, .int (L s))]) hx hb dX12_isDone_173 hl (k := 2) rfl (z_inc (by decide)) (by decide) rfl (fun ls hl => ?_)
            refine lv_goto (tgt := 144) hx hb dX12_isDone_176 (by decide) ?_
            exact ih_144 (k + 1) (upd f (32 + 4 * na + k) (d_N L s k)) _ _ _ (by first | assumption | omega) (by rw [hf]; rfl) (by rw [pk_un (by omega)]; exact hf0) (by rw [pk_un (by omega)]; exact hf1) hP hS (lv_sub hl [1, 2, 0] rfl) (by omega)
      exact cut_144 (_ + 1) 0 (G 93) _ _ _ (by first | assumption | omega) (by exact hM) (by rw [hM]) (by rw [hM]) (zP_eq ((g1_e G 93).symm) hP) hS (lv_sub hl [3, 4, 0] rfl) (Nat.lt_succ_self _)
    · skip
      refine lv_iconst (v := (0 : Int32)) hx hb dX12_isDone_139 (by decide) ?_
      subst hQ_
      exact z_zret C0 hP hS (v := (0 : Int32)) (by decide) (by exact Or.inr ⟨rfl, by rw [hdl]; exact fun q => by have q2 := of_decide_eq_true q; omega, (fun k hk => rfl)⟩) dX12_isDone_140
  · skip
    by_cases e112_15 : (L s) = (112 : Int32)
    · skip
      refine lv_lookup (tgt := 301) (off := 286) hx hb dX12_isDone_15 (by decide) (by rw [e112_15]; rfl) (by decide) ?_
      have h15 : ¬ L s = 115 := z_hne e112_15 (by decide)
      have gd := gram_d hg h15
      have gq1 := gram_112 hg e112_15
      have hdl := d_ok_112 (L := L) (s := s) (e := e) (n := n) (na := na) e112_15
      have hNj : ∀ j, s + 2 + j < e → G 103 (j + 1) = nI (dn L (s + 2 + j)) := fun j hj => by have h9 := hNd (j + 1) (by omega) (fun z => absurd z h15); rw [show s + 1 + (j + 1) = s + 2 + j by omega] at h9; exact h9
      have q1 := dn_e (gd (s + 1) (by omega) (by omega))
      have q2 := dn_e (gd (s + 2) (by omega) (by omega))
      have hA0 : G 103 0 = nI (dn L (s + 1)) := hNd 0 (by omega) (fun z => absurd z h15)
      rw [hA0] at hl
      have hA1 : G 103 1 = nI (dn L (s + 2)) := hNd 1 (by omega) (fun z => absurd z h15)
      rw [hA1] at hl
      refine lv_aload_n hx hb dX12_isDone_301 rfl (lv_at hl 2 rfl) ?_
      refine lv_iload_n hx hb dX12_isDone_302 rfl (lv_at hl 1 rfl) ?_
      refine z_Vi C0 hP hD hA hS (As := [.int (nI (dn L (s + 1)))]) (rest := []) (k := 92) (c_X12_isAthleteN l E _ na (dn L (s + 1)) ((congrFun (hM) _).trans (hrna)) (by omega) (by omega)) (cwV 1 hts (zgV zbw mlRX12_136 imX12_isAthlete seX12_isAthlete iniRX12 coX12_isAthlete) rfl rfl rfl (by decide +kernel) ⟨Nat.le_of_ble_eq_true rfl, Nat.le_of_ble_eq_true rfl⟩) (zk_lt (rfl : zk 92 = 10) (by decide)) (zd_10 E (rfl : zk 92 = 10) _) rfl rfl rfl hl.1 rfl (Nat.le_of_ble_eq_true rfl) dX12_isDone_303 ⟨Nat.zero_le _, Nat.zero_le _⟩ (fun r4 G4 H locs hw4 hP hS => ?_)
      rcases hw4 with ⟨rfl, rfl, hs14⟩ | ⟨rfl, rfl, hs04⟩
      · skip
        refine lv_if_ne (tgt := 311) hx hb dX12_isDone_306 (by decide) (fun _ => ?_) (fun h_ => absurd h_ (by decide))
        refine lv_iconst (v := (1 : Int32)) hx hb dX12_isDone_311 (by decide) ?_
        refine lv_istore (lv' := [(4, .int (1 : Int32)), (3, .int (nI (dn L (s + 2)))), (2, .int (nI (dn L (s + 1)))), (0, .ref (E.1 92)), (1, .int (L s))]) hx hb dX12_isDone_312 hl (by decide) rfl (fun ls hl => ?_)
        have cut_314 : ∀ (fuel : Nat), ∀ (j : Nat) (f : Nat → Int32) (H : Heap) (locs : List Loc) (ls : Array Slot), (s + 2 + j ≤ e) → (f = p_row r (dn L (s + 1)) (fun j => nI (dn L (s + 2 + j))) j) → (s_fst (fun j => decide (3 < dn L (s + 2 + j))) j = j) → (f 0 = r 0) → (f 1 = r 1) → zP E (g1 G 93 f) H → va_S (zA E s_.heap.size) s_.heap H locs → lv_has ls 5 [(0, .ref (E.1 92)), (1, .int (L s)), (2, .int (nI (dn L (s + 1)))), (4, .int (nI (j + 1)))] → e - j < fuel → W p_ l e_ ({ frames := 2, cells := 0, slots := 0, locals := 46 } : Room) s_ m_ a_ b_ me_ c_ H locs 0 0 Q_ (F0 m_ 314 ls []) := by
          intro fuel
          induction fuel with
          | zero =>
            intro j  f  H locs ls hj hf hz hf0 hf1 hP hS hl hfu
            exact absurd hfu (Nat.not_lt_zero _)
          | succ fuel ih_314 =>
            intro j  f  H locs ls hj hf hz hf0 hf1 hP hS hl hfu_314
            refine lv_iload hx hb dX12_isDone_314 (lv_at hl 3 rfl) ?_
            refine lv_aload_n hx hb dX12_isDone_316 rfl (lv_at hl 0 rfl) ?_
            refine z_get C0 hP (C := RX12) (T := TX12) (N := 21) (ci := 10) (index := 116) (k := 92) (ref := "WetSuitPedalsShoesModel") (zk_lt (rfl : zk 92 = 10) (by decide)) (zd_10 E (rfl : zk 92 = 10) _) rfl (zmi inU_12) 15 (by decide) (zm flRX12_116) rfl (v := .int (nI (e - s - 1))) (congrArg (fun z => some (Value.int z)) ((congrFun (g1_n (by decide)) _).trans (hmm))) dX12_isDone_317 ?_
            refine z_N_ge hx hb (a := j + 1) (b := e - s - 1) (tgt := 362) dX12_isDone_320 rfl rfl (by omega) (by omega) (by decide) (fun c_320 => ?_) (fun c_320 => ?_)
            · skip
              refine lv_iconst (v := (1 : Int32)) hx hb dX12_isDone_362 (by decide) ?_
              subst hQ_
              exact z_zret C0 hP hS (v := (1 : Int32)) (by decide) (by exact Or.inl ⟨rfl, by rw [hdl]; exact decide_eq_true ⟨by omega, by rw [show e - s - 2 = j by omega]; exact hz⟩, (fun k hk => g1_n (by omega)), (g1_s _ _ _).trans (by rw [d_row_112 e112_15]; first | (rw [hf, show j = e - s - 2 by omega]; done) | rfl)⟩) dX12_isDone_363
            · skip
              refine lv_aload_n hx hb dX12_isDone_323 rfl (lv_at hl 0 rfl) ?_
              refine z_get C0 hP (C := RX12) (T := TX12) (N := 21) (ci := 10) (index := 40) (k := 92) (ref := "WetSuitPedalsShoesModel") (zk_lt (rfl : zk 92 = 10) (by decide)) (zd_10 E (rfl : zk 92 = 10) _) rfl (zmi inU_12) 14 (by decide) (zm flRX12_40) rfl (v := .ref (E.1 103)) (rfl) dX12_isDone_324 ?_
              refine lv_iload hx hb dX12_isDone_327 (lv_at hl 3 rfl) ?_
              refine z_iald C0 hP (k := 103) (i := j + 1) (v := (nI (dn L (s + 2 + j)))) (rfl : zk 103 = 11) (Nat.lt_of_lt_of_eq (show j + 1 < 12 by omega) (rfl : zl 103 = 12).symm) rfl dX12_isDone_329 ((congrFun (g1_n (by decide)) _).trans (hNj j (by omega))) ?_
              refine lv_iconst (v := (4 : Int32)) hx hb dX12_isDone_330 (by decide) ?_
              refine z_N_lt hx hb (a := dn L (s + 2 + j)) (b := 4) (tgt := 336) dX12_isDone_331 rfl rfl (by (have h9 := (dn_e (gd (s + 2 + j) (by omega) (by omega))).2; omega)) (by (have h9 := (dn_e (gd (s + 2 + j) (by omega) (by omega))).2; omega)) (by decide) (fun c_331 => ?_) (fun c_331 => ?_)
              · skip
                refine lv_aload_n hx hb dX12_isDone_336 rfl (lv_at hl 0 rfl) ?_
                refine z_get C0 hP (C := RX12) (T := TX12) (N := 21) (ci := 10) (index := 9) (k := 92) (ref := "WetSuitPedalsShoesModel") (zk_lt (rfl : zk 92 = 10) (by decide)) (zd_10 E (rfl : zk 92 = 10) _) rfl (zmi inU_12) 0 (by decide) (zm flRX12_9) rfl (v := .ref (E.1 93)) (rfl) dX12_isDone_337 ?_
                refine lv_iload_n hx hb dX12_isDone_340 rfl (lv_at hl 2 rfl) ?_
                refine lv_iload hx hb dX12_isDone_341 (lv_at hl 3 rfl) ?_
                refine lv_iconst (v := (1 : Int32)) hx hb dX12_isDone_343 (by decide) ?_
                refine z_isub hx hb (a := j + 1) (b := 1) (n := j) dX12_isDone_344 rfl rfl (by omega) (by omega) ?_
                refine z_Si C0 hP hD hA hS (As := [.int (nI (dn L (s + 1))), .int (nI j)]) (rest := [.ref (E.1 93)]) (c_X12_tried l E _ (dn L (s + 1)) j) (va_cwS 2 hts (zgS zbw mlRX12_91 stX12_tried iniRX12 coX12_tried) rfl rfl rfl (by decide +kernel) ⟨Nat.le_of_ble_eq_true rfl, Nat.le_of_ble_eq_true rfl⟩) rfl hl.1 rfl (Nat.le_of_ble_eq_true rfl) dX12_isDone_345 ⟨Nat.zero_le _, Nat.zero_le _⟩ (fun r5 G5 H locs hw5 hP hS => ?_)
                obtain ⟨hr5, rfl⟩ := hw5
                subst hr5
                refine z_eqi (y := (nI (52 + 10 * (dn L (s + 1)) + j))) (congrArg nI (by omega)) ?_
                refine lv_aload_n hx hb dX12_isDone_348 rfl (lv_at hl 0 rfl) ?_
                refine z_get C0 hP (C := RX12) (T := TX12) (N := 21) (ci := 10) (index := 40) (k := 92) (ref := "WetSuitPedalsShoesModel") (zk_lt (rfl : zk 92 = 10) (by decide)) (zd_10 E (rfl : zk 92 = 10) _) rfl (zmi inU_12) 14 (by decide) (zm flRX12_40) rfl (v := .ref (E.1 103)) (rfl) dX12_isDone_349 ?_
                refine lv_iload hx hb dX12_isDone_352 (lv_at hl 3 rfl) ?_
                refine z_iald C0 hP (k := 103) (i := j + 1) (v := (nI (dn L (s + 2 + j)))) (rfl : zk 103 = 11) (Nat.lt_of_lt_of_eq (show j + 1 < 12 by omega) (rfl : zl 103 = 12).symm) rfl dX12_isDone_354 ((congrFun (g1_n (by decide)) _).trans (hNj j (by omega))) ?_
                refine z_iast C0 hP hD hS (k := 93) (i := 52 + 10 * (dn L (s + 1)) + j) (v := (nI (dn L (s + 2 + j)))) (F := f) (g1_s _ _ _) (rfl : zk 93 = 11) (Nat.lt_of_lt_of_eq (show 52 + 10 * (dn L (s + 1)) + j < 102 by omega) (rfl : zl 93 = 102).symm) rfl dX12_isDone_355 (fun H locs hP hS => ?_)
                have hP := zP_eq (g1_t _ _ _ _ : _ = (g1 G 93 (upd f (52 + 10 * (dn L (s + 1)) + j) (nI (dn L (s + 2 + j)))))) hP
                refine lv_iinc (v := (nI (j + 1 + 1))) (lv' := [(4, .int (nI (j + 1 + 1))), (0, .ref (E.1 92)), (1, .int (L s)), (2, .int (nI (dn L (s + 1))))]) hx hb dX12_isDone_356 hl (k := 3) rfl (z_inc (by decide)) (by decide) rfl (fun ls hl => ?_)
                refine lv_goto (tgt := 314) hx hb dX12_isDone_359 (by decide) ?_
                exact ih_314 (j + 1) (upd f (52 + 10 * (dn L (s + 1)) + j) (nI (dn L (s + 2 + j)))) _ _ _ (by first | assumption | omega) (by rw [hf]; rfl) (by exact s_fst_no hz (fun q => absurd (of_decide_eq_true q) (by omega))) (by rw [pk_un (by omega)]; exact hf0) (by rw [pk_un (by omega)]; exact hf1) hP hS (lv_sub hl [1, 2, 3, 0] rfl) (by omega)
              · skip
                refine lv_iconst (v := (0 : Int32)) hx hb dX12_isDone_334 (by decide) ?_
                subst hQ_
                exact z_zret C0 hP hS (v := (0 : Int32)) (by decide) (by exact Or.inr ⟨rfl, by rw [hdl]; exact fun q => by have q2 := of_decide_eq_true q; first | omega | (have e9 := s_fst_yes (n := e - s - 2) hz (decide_eq_true (show 3 < dn L (s + 2 + j) by omega)) (by omega); omega), (fun k hk => g1_n (by omega))⟩) dX12_isDone_335
        exact cut_314 (_ + 1) 0 (G 93) _ _ _ (by first | assumption | omega) (by exact hM) (by rfl) (by rw [hM]) (by rw [hM]) (zP_eq ((g1_e G 93).symm) hP) hS (lv_sub hl [3, 4, 2, 0] rfl) (Nat.lt_succ_self _)
      · skip
        refine lv_if_ne (tgt := 311) hx hb dX12_isDone_306 (by decide) (fun h_ => absurd (by decide) h_) (fun _ => ?_)
        refine lv_iconst (v := (0 : Int32)) hx hb dX12_isDone_309 (by decide) ?_
        subst hQ_
        exact z_zret C0 hP hS (v := (0 : Int32)) (by decide) (by exact Or.inr ⟨rfl, by rw [hdl]; exact fun q => by have q2 := of_decide_eq_true q; first | omega | (have e9 := s_fst_yes (n := e - s - 2) hz (decide_eq_true (show 3 < dn L (s + 2 + j) by omega)) (by omega); omega), (fun k hk => rfl)⟩) dX12_isDone_310
    · skip
      by_cases e115_15 : (L s) = (115 : Int32)
      · skip
        refine lv_lookup (tgt := 56) (off := 41) hx hb dX12_isDone_15 (by decide) (by rw [e115_15]; rfl) (by decide) ?_
        obtain ⟨gq1, g2, g3, g4⟩ := gram_115 hg e115_15
        have q2 := dn_e g3
        have q3 := dn_e g4
        have hNk : ∀ k, k < 3 → G 103 k = d_N L s k := fun k hk => by rcases (show k = 0 ∨ k ≠ 0 by omega) with q | q; (subst q; rw [d_N_0 e115_15]; exact hN0 e115_15); (rw [d_N_k q]; exact hNd k (by omega) (fun _ => by omega))
        have hdl := d_ok_115 (L := L) (s := s) (e := e) (n := n) (na := na) e115_15
        refine lv_aload_n hx hb dX12_isDone_56 rfl (lv_at hl 2 rfl) ?_
        refine z_get C0 hP (C := RX12) (T := TX12) (N := 21) (ci := 10) (index := 40) (k := 92) (ref := "WetSuitPedalsShoesModel") (zk_lt (rfl : zk 92 = 10) (by decide)) (zd_10 E (rfl : zk 92 = 10) _) rfl (zmi inU_12) 14 (by decide) (zm flRX12_40) rfl (v := .ref (E.1 103)) (rfl) dX12_isDone_57 ?_
        refine lv_iconst (v := (2 : Int32)) hx hb dX12_isDone_60 (by decide) ?_
        refine z_iald C0 hP (k := 103) (i := 2) (v := (nI (dn L (s + 3)))) (rfl : zk 103 = 11) (Nat.lt_of_lt_of_eq (show 2 < 12 by decide) (rfl : zl 103 = 12).symm) rfl dX12_isDone_61 (hNd 2 (by omega) (fun _ => by decide)) ?_
        refine lv_iconst (v := (1 : Int32)) hx hb dX12_isDone_62 (by decide) ?_
        refine z_N_lt hx hb (a := dn L (s + 3)) (b := 1) (tgt := 77) dX12_isDone_63 rfl rfl (by omega) (by omega) (by decide) (fun c_63 => ?_) (fun c_63 => ?_)
        · skip
          refine lv_iconst (v := (0 : Int32)) hx hb dX12_isDone_77 (by decide) ?_
          subst hQ_
          exact z_zret C0 hP hS (v := (0 : Int32)) (by decide) (by exact Or.inr ⟨rfl, by rw [hdl]; exact fun q => by have q2 := of_decide_eq_true q; omega, (fun k hk => rfl)⟩) dX12_isDone_78
        · skip
          refine lv_aload_n hx hb dX12_isDone_66 rfl (lv_at hl 2 rfl) ?_
          refine z_get C0 hP (C := RX12) (T := TX12) (N := 21) (ci := 10) (index := 9) (k := 92) (ref := "WetSuitPedalsShoesModel") (zk_lt (rfl : zk 92 = 10) (by decide)) (zd_10 E (rfl : zk 92 = 10) _) rfl (zmi inU_12) 0 (by decide) (zm flRX12_9) rfl (v := .ref (E.1 93)) (rfl) dX12_isDone_67 ?_
          refine lv_iconst (v := (0 : Int32)) hx hb dX12_isDone_70 (by decide) ?_
          refine z_iald C0 hP (k := 93) (i := 0) (v := (nI n)) (rfl : zk 93 = 11) (Nat.lt_of_lt_of_eq (show 0 < 102 by decide) (rfl : zl 93 = 102).symm) rfl dX12_isDone_71 ((congrFun (hM) _).trans (hrn)) ?_
          refine lv_bipush (v := (10 : Int32)) hx hb dX12_isDone_72 (by decide) ?_
          refine z_N_ne hx hb (a := n) (b := 10) (tgt := 79) dX12_isDone_74 rfl rfl (by omega) (by omega) (by decide) (fun c_74 => ?_) (fun c_74 => ?_)
          · skip
            refine lv_iconst (v := (0 : Int32)) hx hb dX12_isDone_79 (by decide) ?_
            refine lv_istore (lv' := [(4, .int (0 : Int32)), (3, .int (G 103 1)), (2, .int (G 103 0)), (0, .ref (E.1 92)), (1, .int (L s))]) hx hb dX12_isDone_80 hl (by decide) rfl (fun ls hl => ?_)
            have cut_82 : ∀ (fuel : Nat), ∀ (k : Nat) (f : Nat → Int32) (H : Heap) (locs : List Loc) (ls : Array Slot), (k ≤ 3) → (f = s3 r (2 + 3 * n) (d_N L s) k) → (f 0 = r 0) → (f 1 = r 1) → zP E (g1 G 93 f) H → va_S (zA E s_.heap.size) s_.heap H locs → lv_has ls 5 [(0, .ref (E.1 92)), (1, .int (L s)), (4, .int (nI k))] → 3 - k < fuel → W p_ l e_ ({ frames := 2, cells := 0, slots := 0, locals := 46 } : Room) s_ m_ a_ b_ me_ c_ H locs 0 0 Q_ (F0 m_ 82 ls []) := by
              intro fuel
              induction fuel with
              | zero =>
                intro k  f  H locs ls hk hf hf0 hf1 hP hS hl hfu
                exact absurd hfu (Nat.not_lt_zero _)
              | succ fuel ih_82 =>
                intro k  f  H locs ls hk hf hf0 hf1 hP hS hl hfu_82
                refine lv_iload hx hb dX12_isDone_82 (lv_at hl 2 rfl) ?_
                refine lv_iconst (v := (3 : Int32)) hx hb dX12_isDone_84 (by decide) ?_
                refine z_N_ge hx hb (a := k) (b := 3) (tgt := 117) dX12_isDone_85 rfl rfl (by omega) (by omega) (by decide) (fun c_85 => ?_) (fun c_85 => ?_)
                · skip
                  refine lv_aload_n hx hb dX12_isDone_117 rfl (lv_at hl 0 rfl) ?_
                  refine z_get C0 hP (C := RX12) (T := TX12) (N := 21) (ci := 10) (index := 9) (k := 92) (ref := "WetSuitPedalsShoesModel") (zk_lt (rfl : zk 92 = 10) (by decide)) (zd_10 E (rfl : zk 92 = 10) _) rfl (zmi inU_12) 0 (by decide) (zm flRX12_9) rfl (v := .ref (E.1 93)) (rfl) dX12_isDone_118 ?_
                  refine lv_iconst (v := (0 : Int32)) hx hb dX12_isDone_121 (by decide) ?_
                  refine lv_dup2_11 hx hb dX12_isDone_122 rfl rfl ?_
                  refine z_iald C0 hP (k := 93) (i := 0) (v := (nI n)) (rfl : zk 93 = 11) (Nat.lt_of_lt_of_eq (show 0 < 102 by decide) (rfl : zl 93 = 102).symm) rfl dX12_isDone_123 ((congrFun (g1_s _ _ _) _).trans ((hf0.trans hrn))) ?_
                  refine lv_iconst (v := (1 : Int32)) hx hb dX12_isDone_124 (by decide) ?_
                  refine z_iadd hx hb (a := n) (b := 1) (n := n + 1) dX12_isDone_125 rfl rfl rfl ?_
                  refine z_iast C0 hP hD hS (k := 93) (i := 0) (v := (nI (n + 1))) (F := f) (g1_s _ _ _) (rfl : zk 93 = 11) (Nat.lt_of_lt_of_eq (show 0 < 102 by decide) (rfl : zl 93 = 102).symm) rfl dX12_isDone_126 (fun H locs hP hS => ?_)
                  have hP := zP_eq (g1_t _ _ _ _ : _ = (g1 G 93 (upd f 0 (nI (n + 1))))) hP
                  refine lv_iconst (v := (1 : Int32)) hx hb dX12_isDone_127 (by decide) ?_
                  subst hQ_
                  exact z_zret C0 hP hS (v := (1 : Int32)) (by decide) (by exact Or.inl ⟨rfl, by rw [hdl]; exact decide_eq_true (by omega), (fun k hk => g1_n (by omega)), (g1_s _ _ _).trans (by rw [d_row_115 e115_15]; first | (rw [hf, show k = 3 by omega]; done) | rfl)⟩) dX12_isDone_128
                · skip
                  refine lv_aload_n hx hb dX12_isDone_88 rfl (lv_at hl 0 rfl) ?_
                  refine z_get C0 hP (C := RX12) (T := TX12) (N := 21) (ci := 10) (index := 9) (k := 92) (ref := "WetSuitPedalsShoesModel") (zk_lt (rfl : zk 92 = 10) (by decide)) (zd_10 E (rfl : zk 92 = 10) _) rfl (zmi inU_12) 0 (by decide) (zm flRX12_9) rfl (v := .ref (E.1 93)) (rfl) dX12_isDone_89 ?_
                  refine lv_aload_n hx hb dX12_isDone_92 rfl (lv_at hl 0 rfl) ?_
                  refine z_get C0 hP (C := RX12) (T := TX12) (N := 21) (ci := 10) (index := 9) (k := 92) (ref := "WetSuitPedalsShoesModel") (zk_lt (rfl : zk 92 = 10) (by decide)) (zd_10 E (rfl : zk 92 = 10) _) rfl (zmi inU_12) 0 (by decide) (zm flRX12_9) rfl (v := .ref (E.1 93)) (rfl) dX12_isDone_93 ?_
                  refine lv_iconst (v := (0 : Int32)) hx hb dX12_isDone_96 (by decide) ?_
                  refine z_iald C0 hP (k := 93) (i := 0) (v := (nI n)) (rfl : zk 93 = 11) (Nat.lt_of_lt_of_eq (show 0 < 102 by decide) (rfl : zl 93 = 102).symm) rfl dX12_isDone_97 ((congrFun (g1_s _ _ _) _).trans ((hf0.trans hrn))) ?_
                  refine lv_iload hx hb dX12_isDone_98 (lv_at hl 2 rfl) ?_
                  refine z_Si C0 hP hD hA hS (As := [.int (nI n), .int (nI k)]) (rest := [.ref (E.1 93)]) (c_X12_of l E _ n k) (va_cwS 2 hts (zgS zbw mlRX12_66 stX12_of iniRX12 coX12_of) rfl rfl rfl (by decide +kernel) ⟨Nat.le_of_ble_eq_true rfl, Nat.le_of_ble_eq_true rfl⟩) rfl hl.1 rfl (Nat.le_of_ble_eq_true rfl) dX12_isDone_100 ⟨Nat.zero_le _, Nat.zero_le _⟩ (fun r6 G6 H locs hw6 hP hS => ?_)
                  obtain ⟨hr6, rfl⟩ := hw6
                  subst hr6
                  refine z_eqi (y := (nI (2 + 3 * n + k))) (congrArg nI (by omega)) ?_
                  refine lv_aload_n hx hb dX12_isDone_103 rfl (lv_at hl 0 rfl) ?_
                  refine z_get C0 hP (C := RX12) (T := TX12) (N := 21) (ci := 10) (index := 40) (k := 92) (ref := "WetSuitPedalsShoesModel") (zk_lt (rfl : zk 92 = 10) (by decide)) (zd_10 E (rfl : zk 92 = 10) _) rfl (zmi inU_12) 14 (by decide) (zm flRX12_40) rfl (v := .ref (E.1 103)) (rfl) dX12_isDone_104 ?_
                  refine lv_iload hx hb dX12_isDone_107 (lv_at hl 2 rfl) ?_
                  refine z_iald C0 hP (k := 103) (i := k) (v := (d_N L s k)) (rfl : zk 103 = 11) (Nat.lt_of_lt_of_eq (show k < 12 by omega) (rfl : zl 103 = 12).symm) rfl dX12_isDone_109 ((congrFun (g1_n (by decide)) _).trans (hNk k (by omega))) ?_
                  refine z_iast C0 hP hD hS (k := 93) (i := 2 + 3 * n + k) (v := (d_N L s k)) (F := f) (g1_s _ _ _) (rfl : zk 93 = 11) (Nat.lt_of_lt_of_eq (show 2 + 3 * n + k < 102 by omega) (rfl : zl 93 = 102).symm) rfl dX12_isDone_110 (fun H locs hP hS => ?_)
                  have hP := zP_eq (g1_t _ _ _ _ : _ = (g1 G 93 (upd f (2 + 3 * n + k) (d_N L s k)))) hP
                  refine lv_iinc (v := (nI (k + 1))) (lv' := [(4, .int (nI (k + 1))), (0, .ref (E.1 92)), (1, .int (L s))]) hx hb dX12_isDone_111 hl (k := 2) rfl (z_inc (by decide)) (by decide) rfl (fun ls hl => ?_)
                  refine lv_goto (tgt := 82) hx hb dX12_isDone_114 (by decide) ?_
                  exact ih_82 (k + 1) (upd f (2 + 3 * n + k) (d_N L s k)) _ _ _ (by first | assumption | omega) (by rw [hf]; rfl) (by rw [pk_un (by omega)]; exact hf0) (by rw [pk_un (by omega)]; exact hf1) hP hS (lv_sub hl [1, 2, 0] rfl) (by omega)
            exact cut_82 (_ + 1) 0 (G 93) _ _ _ (by first | assumption | omega) (by exact hM) (by rw [hM]) (by rw [hM]) (zP_eq ((g1_e G 93).symm) hP) hS (lv_sub hl [3, 4, 0] rfl) (Nat.lt_succ_self _)
          · skip
            refine lv_iconst (v := (0 : Int32)) hx hb dX12_isDone_77 (by decide) ?_
            subst hQ_
            exact z_zret C0 hP hS (v := (0 : Int32)) (by decide) (by exact Or.inr ⟨rfl, by rw [hdl]; exact fun q => by have q2 := of_decide_eq_true q; omega, (fun k hk => rfl)⟩) dX12_isDone_78
      · skip
        by_cases e116_15 : (L s) = (116 : Int32)
        · skip
          refine lv_lookup (tgt := 255) (off := 240) hx hb dX12_isDone_15 (by decide) (by rw [e116_15]; rfl) (by decide) ?_
          have h15 : ¬ L s = 115 := z_hne e116_15 (by decide)
          have gd := gram_d hg h15
          have gq1 := gram_116 hg e116_15
          have hdl := d_ok_116 (L := L) (s := s) (e := e) (n := n) (na := na) e116_15
          have q1 := dn_e (gd (s + 1) (by omega) (by omega))
          have q2 := dn_e (gd (s + 2) (by omega) (by omega))
          have q3 := dn_e (gd (s + 3) (by omega) (by omega))
          have hA0 : G 103 0 = nI (dn L (s + 1)) := hNd 0 (by omega) (fun z => absurd z h15)
          rw [hA0] at hl
          have hA1 : G 103 1 = nI (dn L (s + 2)) := hNd 1 (by omega) (fun z => absurd z h15)
          rw [hA1] at hl
          refine lv_aload_n hx hb dX12_isDone_255 rfl (lv_at hl 2 rfl) ?_
          refine lv_iload_n hx hb dX12_isDone_256 rfl (lv_at hl 1 rfl) ?_
          refine z_Vi C0 hP hD hA hS (As := [.int (nI (dn L (s + 1)))]) (rest := []) (k := 92) (c_X12_isAthleteN l E _ na (dn L (s + 1)) ((congrFun (hM) _).trans (hrna)) (by omega) (by omega)) (cwV 1 hts (zgV zbw mlRX12_136 imX12_isAthlete seX12_isAthlete iniRX12 coX12_isAthlete) rfl rfl rfl (by decide +kernel) ⟨Nat.le_of_ble_eq_true rfl, Nat.le_of_ble_eq_true rfl⟩) (zk_lt (rfl : zk 92 = 10) (by decide)) (zd_10 E (rfl : zk 92 = 10) _) rfl rfl rfl hl.1 rfl (Nat.le_of_ble_eq_true rfl) dX12_isDone_257 ⟨Nat.zero_le _, Nat.zero_le _⟩ (fun r7 G7 H locs hw7 hP hS => ?_)
          rcases hw7 with ⟨rfl, rfl, hs17⟩ | ⟨rfl, rfl, hs07⟩
          · skip
            refine lv_if_eq (tgt := 281) hx hb dX12_isDone_260 (by decide) (fun h_ => absurd h_ (by decide)) (fun _ => ?_)
            refine lv_aload_n hx hb dX12_isDone_263 rfl (lv_at hl 2 rfl) ?_
            refine lv_iload_n hx hb dX12_isDone_264 rfl (lv_at hl 0 rfl) ?_
            refine z_Vi C0 hP hD hA hS (As := [.int (nI (dn L (s + 2)))]) (rest := []) (k := 92) (c_X12_isSectionN l E _ n (dn L (s + 2)) ((congrFun (hM) _).trans (hrn)) (by omega) (by omega)) (cwV 1 hts (zgV zbw mlRX12_139 imX12_isSection seX12_isSection iniRX12 coX12_isSection) rfl rfl rfl (by decide +kernel) ⟨Nat.le_of_ble_eq_true rfl, Nat.le_of_ble_eq_true rfl⟩) (zk_lt (rfl : zk 92 = 10) (by decide)) (zd_10 E (rfl : zk 92 = 10) _) rfl rfl rfl hl.1 rfl (Nat.le_of_ble_eq_true rfl) dX12_isDone_265 ⟨Nat.zero_le _, Nat.zero_le _⟩ (fun r8 G8 H locs hw8 hP hS => ?_)
            rcases hw8 with ⟨rfl, rfl, hs18⟩ | ⟨rfl, rfl, hs08⟩
            · skip
              refine lv_if_eq (tgt := 281) hx hb dX12_isDone_268 (by decide) (fun h_ => absurd h_ (by decide)) (fun _ => ?_)
              refine lv_aload_n hx hb dX12_isDone_271 rfl (lv_at hl 2 rfl) ?_
              refine z_get C0 hP (C := RX12) (T := TX12) (N := 21) (ci := 10) (index := 40) (k := 92) (ref := "WetSuitPedalsShoesModel") (zk_lt (rfl : zk 92 = 10) (by decide)) (zd_10 E (rfl : zk 92 = 10) _) rfl (zmi inU_12) 14 (by decide) (zm flRX12_40) rfl (v := .ref (E.1 103)) (rfl) dX12_isDone_272 ?_
              refine lv_iconst (v := (2 : Int32)) hx hb dX12_isDone_275 (by decide) ?_
              refine z_iald C0 hP (k := 103) (i := 2) (v := (nI (dn L (s + 3)))) (rfl : zk 103 = 11) (Nat.lt_of_lt_of_eq (show 2 < 12 by decide) (rfl : zl 103 = 12).symm) rfl dX12_isDone_276 (hNd 2 (by omega) (fun z => absurd z h15)) ?_
              refine lv_iconst (v := (4 : Int32)) hx hb dX12_isDone_277 (by decide) ?_
              refine z_N_lt hx hb (a := dn L (s + 3)) (b := 4) (tgt := 283) dX12_isDone_278 rfl rfl (by omega) (by omega) (by decide) (fun c_278 => ?_) (fun c_278 => ?_)
              · skip
                refine lv_aload_n hx hb dX12_isDone_283 rfl (lv_at hl 2 rfl) ?_
                refine z_get C0 hP (C := RX12) (T := TX12) (N := 21) (ci := 10) (index := 9) (k := 92) (ref := "WetSuitPedalsShoesModel") (zk_lt (rfl : zk 92 = 10) (by decide)) (zd_10 E (rfl : zk 92 = 10) _) rfl (zmi inU_12) 0 (by decide) (zm flRX12_9) rfl (v := .ref (E.1 93)) (rfl) dX12_isDone_284 ?_
                refine lv_iload_n hx hb dX12_isDone_287 rfl (lv_at hl 1 rfl) ?_
                refine lv_iload_n hx hb dX12_isDone_288 rfl (lv_at hl 0 rfl) ?_
                refine z_Si C0 hP hD hA hS (As := [.int (nI (dn L (s + 1))), .int (nI (dn L (s + 2)))]) (rest := [.ref (E.1 93)]) (c_X12_tried l E _ (dn L (s + 1)) (dn L (s + 2))) (va_cwS 2 hts (zgS zbw mlRX12_91 stX12_tried iniRX12 coX12_tried) rfl rfl rfl (by decide +kernel) ⟨Nat.le_of_ble_eq_true rfl, Nat.le_of_ble_eq_true rfl⟩) rfl hl.1 rfl (Nat.le_of_ble_eq_true rfl) dX12_isDone_289 ⟨Nat.zero_le _, Nat.zero_le _⟩ (fun r9 G9 H locs hw9 hP hS => ?_)
                obtain ⟨hr9, rfl⟩ := hw9
                subst hr9
                refine z_eqi (y := (nI (52 + 10 * (dn L (s + 1)) + (dn L (s + 2))))) (congrArg nI (by omega)) ?_
                refine lv_aload_n hx hb dX12_isDone_292 rfl (lv_at hl 2 rfl) ?_
                refine z_get C0 hP (C := RX12) (T := TX12) (N := 21) (ci := 10) (index := 40) (k := 92) (ref := "WetSuitPedalsShoesModel") (zk_lt (rfl : zk 92 = 10) (by decide)) (zd_10 E (rfl : zk 92 = 10) _) rfl (zmi inU_12) 14 (by decide) (zm flRX12_40) rfl (v := .ref (E.1 103)) (rfl) dX12_isDone_293 ?_
                refine lv_iconst (v := (2 : Int32)) hx hb dX12_isDone_296 (by decide) ?_
                refine z_iald C0 hP (k := 103) (i := 2) (v := (nI (dn L (s + 3)))) (rfl : zk 103 = 11) (Nat.lt_of_lt_of_eq (show 2 < 12 by decide) (rfl : zl 103 = 12).symm) rfl dX12_isDone_297 (hNd 2 (by omega) (fun z => absurd z h15)) ?_
                refine z_iast C0 hP hD hS (k := 93) (i := 52 + 10 * (dn L (s + 1)) + (dn L (s + 2))) (v := (nI (dn L (s + 3)))) (F := r) (hM) (rfl : zk 93 = 11) (Nat.lt_of_lt_of_eq (show 52 + 10 * (dn L (s + 1)) + (dn L (s + 2)) < 102 by omega) (rfl : zl 93 = 102).symm) rfl dX12_isDone_298 (fun H locs hP hS => ?_)
                refine lv_iconst (v := (1 : Int32)) hx hb dX12_isDone_299 (by decide) ?_
                subst hQ_
                exact z_zret C0 hP hS (v := (1 : Int32)) (by decide) (by exact Or.inl ⟨rfl, by rw [hdl]; exact decide_eq_true (by omega), (fun k hk => g1_n (by omega)), (g1_s _ _ _).trans (by rw [d_row_116 e116_15]; first | (skip; done) | rfl)⟩) dX12_isDone_300
              · skip
                refine lv_iconst (v := (0 : Int32)) hx hb dX12_isDone_281 (by decide) ?_
                subst hQ_
                exact z_zret C0 hP hS (v := (0 : Int32)) (by decide) (by exact Or.inr ⟨rfl, by rw [hdl]; exact fun q => by have q2 := of_decide_eq_true q; omega, (fun k hk => rfl)⟩) dX12_isDone_282
            · skip
              refine lv_if_eq (tgt := 281) hx hb dX12_isDone_268 (by decide) (fun _ => ?_) (fun h_ => absurd (by decide) h_)
              refine lv_iconst (v := (0 : Int32)) hx hb dX12_isDone_281 (by decide) ?_
              subst hQ_
              exact z_zret C0 hP hS (v := (0 : Int32)) (by decide) (by exact Or.inr ⟨rfl, by rw [hdl]; exact fun q => by have q2 := of_decide_eq_true q; omega, (fun k hk => rfl)⟩) dX12_isDone_282
          · skip
            refine lv_if_eq (tgt := 281) hx hb dX12_isDone_260 (by decide) (fun _ => ?_) (fun h_ => absurd (by decide) h_)
            refine lv_iconst (v := (0 : Int32)) hx hb dX12_isDone_281 (by decide) ?_
            subst hQ_
            exact z_zret C0 hP hS (v := (0 : Int32)) (by decide) (by exact Or.inr ⟨rfl, by rw [hdl]; exact fun q => by have q2 := of_decide_eq_true q; omega, (fun k hk => rfl)⟩) dX12_isDone_282
        · skip
          refine lv_lookup (tgt := 364) (off := 349) hx hb dX12_isDone_15 (by decide) ((lv_osw e97_15 rfl).trans ((lv_osw e112_15 rfl).trans ((lv_osw e115_15 rfl).trans ((lv_osw e116_15 rfl).trans (rfl))))) (by decide) ?_
          have h15 : ¬ L s = 115 := e115_15
          have gd := gram_d hg h15
          have gq1 := gram_120 hg e97_15 e112_15 e115_15 e116_15
          have hdl := d_ok_x (L := L) (s := s) (e := e) (n := n) (na := na) e97_15 e112_15 e115_15 e116_15
          have q1 := dn_e (gd (s + 1) (by omega) (by omega))
          have q2 := dn_e (gd (s + 2) (by omega) (by omega))
          have hA0 : G 103 0 = nI (dn L (s + 1)) := hNd 0 (by omega) (fun z => absurd z h15)
          rw [hA0] at hl
          have hA1 : G 103 1 = nI (dn L (s + 2)) := hNd 1 (by omega) (fun z => absurd z h15)
          rw [hA1] at hl
          refine lv_aload_n hx hb dX12_isDone_364 rfl (lv_at hl 2 rfl) ?_
          refine lv_iload_n hx hb dX12_isDone_365 rfl (lv_at hl 1 rfl) ?_
          refine z_Vi C0 hP hD hA hS (As := [.int (nI (dn L (s + 1)))]) (rest := []) (k := 92) (c_X12_isSectionN l E _ n (dn L (s + 1)) ((congrFun (hM) _).trans (hrn)) (by omega) (by omega)) (cwV 1 hts (zgV zbw mlRX12_139 imX12_isSection seX12_isSection iniRX12 coX12_isSection) rfl rfl rfl (by decide +kernel) ⟨Nat.le_of_ble_eq_true rfl, Nat.le_of_ble_eq_true rfl⟩) (zk_lt (rfl : zk 92 = 10) (by decide)) (zd_10 E (rfl : zk 92 = 10) _) rfl rfl rfl hl.1 rfl (Nat.le_of_ble_eq_true rfl) dX12_isDone_366 ⟨Nat.zero_le _, Nat.zero_le _⟩ (fun r10 G10 H locs hw10 hP hS => ?_)
          rcases hw10 with ⟨rfl, rfl, hs110⟩ | ⟨rfl, rfl, hs010⟩
          · skip
            refine lv_if_eq (tgt := 385) hx hb dX12_isDone_369 (by decide) (fun h_ => absurd h_ (by decide)) (fun _ => ?_)
            refine lv_aload_n hx hb dX12_isDone_372 rfl (lv_at hl 2 rfl) ?_
            refine lv_iload_n hx hb dX12_isDone_373 rfl (lv_at hl 0 rfl) ?_
            refine z_Vi C0 hP hD hA hS (As := [.int (nI (dn L (s + 2)))]) (rest := []) (k := 92) (c_X12_isSectionN l E _ n (dn L (s + 2)) ((congrFun (hM) _).trans (hrn)) (by omega) (by omega)) (cwV 1 hts (zgV zbw mlRX12_139 imX12_isSection seX12_isSection iniRX12 coX12_isSection) rfl rfl rfl (by decide +kernel) ⟨Nat.le_of_ble_eq_true rfl, Nat.le_of_ble_eq_true rfl⟩) (zk_lt (rfl : zk 92 = 10) (by decide)) (zd_10 E (rfl : zk 92 = 10) _) rfl rfl rfl hl.1 rfl (Nat.le_of_ble_eq_true rfl) dX12_isDone_374 ⟨Nat.zero_le _, Nat.zero_le _⟩ (fun r11 G11 H locs hw11 hP hS => ?_)
            rcases hw11 with ⟨rfl, rfl, hs111⟩ | ⟨rfl, rfl, hs011⟩
            · skip
              refine lv_if_eq (tgt := 385) hx hb dX12_isDone_377 (by decide) (fun h_ => absurd h_ (by decide)) (fun _ => ?_)
              refine lv_iload_n hx hb dX12_isDone_380 rfl (lv_at hl 1 rfl) ?_
              refine lv_iload_n hx hb dX12_isDone_381 rfl (lv_at hl 0 rfl) ?_
              refine z_N_ne hx hb (a := dn L (s + 1)) (b := dn L (s + 2)) (tgt := 387) dX12_isDone_382 rfl rfl (by omega) (by omega) (by decide) (fun c_382 => ?_) (fun c_382 => ?_)
              · skip
                refine lv_aload_n hx hb dX12_isDone_387 rfl (lv_at hl 2 rfl) ?_
                refine lv_iload_n hx hb dX12_isDone_388 rfl (lv_at hl 1 rfl) ?_
                refine lv_iload_n hx hb dX12_isDone_389 rfl (lv_at hl 0 rfl) ?_
                refine lv_aload_n hx hb dX12_isDone_390 rfl (lv_at hl 2 rfl) ?_
                refine z_get C0 hP (C := RX12) (T := TX12) (N := 21) (ci := 10) (index := 9) (k := 92) (ref := "WetSuitPedalsShoesModel") (zk_lt (rfl : zk 92 = 10) (by decide)) (zd_10 E (rfl : zk 92 = 10) _) rfl (zmi inU_12) 0 (by decide) (zm flRX12_9) rfl (v := .ref (E.1 93)) (rfl) dX12_isDone_391 ?_
                refine z_Vv C0 hP hD hA hS (As := [.int (nI (dn L (s + 1))), .int (nI (dn L (s + 2))), .ref (E.1 93)]) (rest := []) (k := 92) (c_X12_changes l E _ 93 (dn L (s + 1)) (dn L (s + 2)) z_lit_Arr102_93 (by omega) (by omega) (by omega)) (cwV 3 hts (zgV zbw mlRX12_142 imX12_changes seX12_changes iniRX12 coX12_changes) rfl rfl rfl (by decide +kernel) ⟨Nat.le_of_ble_eq_true rfl, Nat.le_of_ble_eq_true rfl⟩) (zk_lt (rfl : zk 92 = 10) (by decide)) (zd_10 E (rfl : zk 92 = 10) _) rfl rfl rfl hl.1 rfl (Nat.le_of_ble_eq_true rfl) dX12_isDone_394 ⟨Nat.zero_le _, Nat.zero_le _⟩ (fun G12 H locs hw12 hP hS => ?_)
                obtain rfl := hw12
                have hP := zP_eq (congrArg (fun z_ : Nat → Int32 => g1 G 93 (s_chg z_ (dn L (s + 1)) (dn L (s + 2)) 3)) (show G 93 = r from hM)) hP
                refine lv_iconst (v := (1 : Int32)) hx hb dX12_isDone_397 (by decide) ?_
                subst hQ_
                exact z_zret C0 hP hS (v := (1 : Int32)) (by decide) (by exact Or.inl ⟨rfl, by rw [hdl]; exact decide_eq_true (by omega), (fun k hk => g1_n (by omega)), (g1_s _ _ _).trans (by rw [d_row_x e97_15 e112_15 e115_15 e116_15]; first | (skip; done) | rfl)⟩) dX12_isDone_398
              · skip
                refine lv_iconst (v := (0 : Int32)) hx hb dX12_isDone_385 (by decide) ?_
                subst hQ_
                exact z_zret C0 hP hS (v := (0 : Int32)) (by decide) (by exact Or.inr ⟨rfl, by rw [hdl]; exact fun q => by have q2 := of_decide_eq_true q; omega, (fun k hk => rfl)⟩) dX12_isDone_386
            · skip
              refine lv_if_eq (tgt := 385) hx hb dX12_isDone_377 (by decide) (fun _ => ?_) (fun h_ => absurd (by decide) h_)
              refine lv_iconst (v := (0 : Int32)) hx hb dX12_isDone_385 (by decide) ?_
              subst hQ_
              exact z_zret C0 hP hS (v := (0 : Int32)) (by decide) (by exact Or.inr ⟨rfl, by rw [hdl]; exact fun q => by have q2 := of_decide_eq_true q; omega, (fun k hk => rfl)⟩) dX12_isDone_386
          · skip
            refine lv_if_eq (tgt := 385) hx hb dX12_isDone_369 (by decide) (fun _ => ?_) (fun h_ => absurd (by decide) h_)
            refine lv_iconst (v := (0 : Int32)) hx hb dX12_isDone_385 (by decide) ?_
            subst hQ_
            exact z_zret C0 hP hS (v := (0 : Int32)) (by decide) (by exact Or.inr ⟨rfl, by rw [hdl]; exact fun q => by have q2 := of_decide_eq_true q; omega, (fun k hk => rfl)⟩) dX12_isDone_386
set_option maxHeartbeats 4000000 in
set_option maxRecDepth 100000 in
theorem c_X12_letter (l : Launch) (E : zE) (G : zG) (L : Nat → Int32) (K : Nat) (v : Int32) (hL : G 97 = L) (hK : G 92 8 = nI K) (hK96 : K ≤ 96) : zMi l yX12_letter wsX12_letter ({ frames := 1, cells := 0, slots := 0, locals := 21 } : Room) E G [.ref (E.1 92), .int v] (fun r1 G1 => zTm (R_letter K L v) G r1 G1) := by
  refine zOf (cc := cX12_letter) (nL := 2) (ret := (some .int)) RX12 (by decide) rfl rfl (Nat.le_of_ble_eq_true rfl) ?_
  intro p_ e_ s_ m_ a_ b_ me_ c_ ls C0 hP hS hl
  have hx := C0.1
  have hb := C0.2.1
  have hts := C0.2.2.2.2.1
  have hD : zD E (zA E s_.heap.size) := C0.2.2.2.2.2.2.2.2
  have hA : ∀ q : Nat, s_.heap.size ≤ q → zA E s_.heap.size q := fun q h => Or.inr h
  refine z_gen (fun Q_ hQ_ => ?_)
  have hl : lv_has ls 2 [(0, .ref (E.1 92)), (1, .int v)] := hl
  refine lv_iload_n hx hb dX12_letter_0 rfl (lv_at hl 1 rfl) ?_
  refine lv_if_ge (tgt := 11) hx hb dX12_letter_1 (by decide) (fun c_1 => ?_) (fun c_1 => ?_)
  · skip
    have d_1 := Int32.not_lt.mpr c_1
    refine lv_iload_n hx hb dX12_letter_11 rfl (lv_at hl 1 rfl) ?_
    refine lv_sipush (v := (255 : Int32)) hx hb dX12_letter_12 (by decide) ?_
    refine lv_icmp_gt (tgt := 27) hx hb dX12_letter_15 (by decide) (fun c_15 => ?_) (fun c_15 => ?_)
    · skip
      have e9 := (show 255 < v from c_15)
      refine lv_aload_n hx hb dX12_letter_27 rfl (lv_at hl 0 rfl) ?_
      refine lv_bipush (v := (-6 : Int32)) hx hb dX12_letter_28 (by decide) ?_
      refine z_Vi C0 hP hD hA hS (As := [.int (-6 : Int32)]) (rest := []) (k := 92) (c_X12_no l E _ (-6 : Int32) 6 (by decide) (by decide)) (cwV 1 hts (zgV zbw mlRX12_56 imX12_no seX12_no iniRX12 coX12_no) rfl rfl rfl (by decide +kernel) ⟨Nat.le_of_ble_eq_true rfl, Nat.le_of_ble_eq_true rfl⟩) (zk_lt (rfl : zk 92 = 10) (by decide)) (zd_10 E (rfl : zk 92 = 10) _) rfl rfl rfl hl.1 rfl (Nat.le_of_ble_eq_true rfl) dX12_letter_30 ⟨Nat.zero_le _, Nat.zero_le _⟩ (fun r1 G1 H locs hw1 hP hS => ?_)
      obtain ⟨rfl, rfl⟩ := hw1
      subst hQ_
      exact z_iret C0 hP hS (v := (-6 : Int32)) (by exact zTm_of (m := K) (k := 6) (by simp [R_letter, d_1, c_15, e9]) (fun k hk => g1_n (by omega)) (fun x hx => congrFun (g1_n (by decide)) x) ((congrFun (g1_n (by decide)) _).trans (hK)) ((g1_n (by decide)).trans (hL)) (g1_s _ _ _)) dX12_letter_33
    · skip
      refine lv_aload_n hx hb dX12_letter_18 rfl (lv_at hl 0 rfl) ?_
      refine z_get C0 hP (C := RX12) (T := TX12) (N := 21) (ci := 10) (index := 105) (k := 92) (ref := "WetSuitPedalsShoesModel") (zk_lt (rfl : zk 92 = 10) (by decide)) (zd_10 E (rfl : zk 92 = 10) _) rfl (zmi inU_12) 8 (by decide) (zm flRX12_105) rfl (v := .int (nI K)) (congrArg (fun z => some (Value.int z)) (hK)) dX12_letter_19 ?_
      refine lv_bipush (v := (96 : Int32)) hx hb dX12_letter_22 (by decide) ?_
      refine z_N_ne hx hb (a := K) (b := 96) (tgt := 34) dX12_letter_24 rfl rfl (by omega) (by omega) (by decide) (fun c_24 => ?_) (fun c_24 => ?_)
      · skip
        have e9 := (show ¬ 96 ≤ K by omega)
        refine lv_aload_n hx hb dX12_letter_34 rfl (lv_at hl 0 rfl) ?_
        refine z_get C0 hP (C := RX12) (T := TX12) (N := 21) (ci := 10) (index := 22) (k := 92) (ref := "WetSuitPedalsShoesModel") (zk_lt (rfl : zk 92 = 10) (by decide)) (zd_10 E (rfl : zk 92 = 10) _) rfl (zmi inU_12) 5 (by decide) (zm flRX12_22) rfl (v := .ref (E.1 97)) (rfl) dX12_letter_35 ?_
        refine lv_aload_n hx hb dX12_letter_38 rfl (lv_at hl 0 rfl) ?_
        refine z_get C0 hP (C := RX12) (T := TX12) (N := 21) (ci := 10) (index := 105) (k := 92) (ref := "WetSuitPedalsShoesModel") (zk_lt (rfl : zk 92 = 10) (by decide)) (zd_10 E (rfl : zk 92 = 10) _) rfl (zmi inU_12) 8 (by decide) (zm flRX12_105) rfl (v := .int (nI K)) (congrArg (fun z => some (Value.int z)) (hK)) dX12_letter_39 ?_
        refine lv_iload_n hx hb dX12_letter_42 rfl (lv_at hl 1 rfl) ?_
        refine z_iast C0 hP hD hS (k := 97) (i := K) (v := v) (F := L) (hL) (rfl : zk 97 = 11) (Nat.lt_of_lt_of_eq (show K < 96 by omega) (rfl : zl 97 = 96).symm) rfl dX12_letter_43 (fun H locs hP hS => ?_)
        refine lv_aload_n hx hb dX12_letter_44 rfl (lv_at hl 0 rfl) ?_
        refine lv_dup hx hb dX12_letter_45 rfl ?_
        refine z_get C0 hP (C := RX12) (T := TX12) (N := 21) (ci := 10) (index := 105) (k := 92) (ref := "WetSuitPedalsShoesModel") (zk_lt (rfl : zk 92 = 10) (by decide)) (zd_10 E (rfl : zk 92 = 10) _) rfl (zmi inU_12) 8 (by decide) (zm flRX12_105) rfl (v := .int (nI K)) (congrArg (fun z => some (Value.int z)) ((congrFun (g1_n (by decide)) _).trans (hK))) dX12_letter_46 ?_
        refine lv_iconst (v := (1 : Int32)) hx hb dX12_letter_49 (by decide) ?_
        refine z_iadd hx hb (a := K) (b := 1) (n := K + 1) dX12_letter_50 rfl rfl rfl ?_
        refine z_put C0 hP hD hS (C := RX12) (T := TX12) (N := 21) (ci := 10) (index := 105) (k := 92) (ref := "WetSuitPedalsShoesModel") (F := G 92) (ty := .int) (g1_n (by decide)) tyX12 tyX12_ok nmX12 (zk_lt (rfl : zk 92 = 10) (by decide)) (zd_10 E (rfl : zk 92 = 10) _) rfl (zmi inU_12) 8 (by decide) (zm flRX12_105) rfl rfl (by decide +kernel) (by rfl) rfl (by show 8 < 21; decide) (upd (G 92) 8 (nI (K + 1))) ((zd_10 E (rfl : zk 92 = 10) _).trans (rfl)) dX12_letter_51 (fun H locs hP hS => ?_)
        refine lv_aload_n hx hb dX12_letter_54 rfl (lv_at hl 0 rfl) ?_
        refine z_get C0 hP (C := RX12) (T := TX12) (N := 21) (ci := 10) (index := 105) (k := 92) (ref := "WetSuitPedalsShoesModel") (zk_lt (rfl : zk 92 = 10) (by decide)) (zd_10 E (rfl : zk 92 = 10) _) rfl (zmi inU_12) 8 (by decide) (zm flRX12_105) rfl (v := .int (nI (K + 1))) (congrArg (fun z => some (Value.int z)) ((congrFun (g1_s _ _ _) _).trans (pk_us))) dX12_letter_55 ?_
        subst hQ_
        exact z_iret C0 hP hS (v := (nI (K + 1))) (by exact zTm_of (m := K + 1) (k := 0) (by simp [R_letter, d_1, c_15, c_24, e9]) (fun k hk => (g1_n (by omega)).trans (g1_n (by omega))) (fun x hx => (congrFun (g1_s _ _ _) x).trans (pk_un hx)) ((congrFun (g1_s _ _ _) _).trans (pk_us)) ((g1_n (by decide)).trans (g1_s _ _ _)) ((g1_n (by decide)).trans (g1_n (by decide)))) dX12_letter_58
      · skip
        have e9 := (show 96 ≤ K by omega)
        refine lv_aload_n hx hb dX12_letter_27 rfl (lv_at hl 0 rfl) ?_
        refine lv_bipush (v := (-6 : Int32)) hx hb dX12_letter_28 (by decide) ?_
        refine z_Vi C0 hP hD hA hS (As := [.int (-6 : Int32)]) (rest := []) (k := 92) (c_X12_no l E _ (-6 : Int32) 6 (by decide) (by decide)) (cwV 1 hts (zgV zbw mlRX12_56 imX12_no seX12_no iniRX12 coX12_no) rfl rfl rfl (by decide +kernel) ⟨Nat.le_of_ble_eq_true rfl, Nat.le_of_ble_eq_true rfl⟩) (zk_lt (rfl : zk 92 = 10) (by decide)) (zd_10 E (rfl : zk 92 = 10) _) rfl rfl rfl hl.1 rfl (Nat.le_of_ble_eq_true rfl) dX12_letter_30 ⟨Nat.zero_le _, Nat.zero_le _⟩ (fun r2 G2 H locs hw2 hP hS => ?_)
        obtain ⟨rfl, rfl⟩ := hw2
        subst hQ_
        exact z_iret C0 hP hS (v := (-6 : Int32)) (by exact zTm_of (m := K) (k := 6) (by simp [R_letter, d_1, c_15, c_24, e9]) (fun k hk => g1_n (by omega)) (fun x hx => congrFun (g1_n (by decide)) x) ((congrFun (g1_n (by decide)) _).trans (hK)) ((g1_n (by decide)).trans (hL)) (g1_s _ _ _)) dX12_letter_33
  · skip
    have d_1 := Int32.not_le.mp c_1
    refine lv_aload_n hx hb dX12_letter_4 rfl (lv_at hl 0 rfl) ?_
    refine lv_bipush (v := (-4 : Int32)) hx hb dX12_letter_5 (by decide) ?_
    refine z_Vi C0 hP hD hA hS (As := [.int (-4 : Int32)]) (rest := []) (k := 92) (c_X12_no l E _ (-4 : Int32) 4 (by decide) (by decide)) (cwV 1 hts (zgV zbw mlRX12_56 imX12_no seX12_no iniRX12 coX12_no) rfl rfl rfl (by decide +kernel) ⟨Nat.le_of_ble_eq_true rfl, Nat.le_of_ble_eq_true rfl⟩) (zk_lt (rfl : zk 92 = 10) (by decide)) (zd_10 E (rfl : zk 92 = 10) _) rfl rfl rfl hl.1 rfl (Nat.le_of_ble_eq_true rfl) dX12_letter_7 ⟨Nat.zero_le _, Nat.zero_le _⟩ (fun r3 G3 H locs hw3 hP hS => ?_)
    obtain ⟨rfl, rfl⟩ := hw3
    subst hQ_
    exact z_iret C0 hP hS (v := (-4 : Int32)) (by exact zTm_of (m := K) (k := 4) (by simp [R_letter, d_1]) (fun k hk => g1_n (by omega)) (fun x hx => congrFun (g1_n (by decide)) x) ((congrFun (g1_n (by decide)) _).trans (hK)) ((g1_n (by decide)).trans (hL)) (g1_s _ _ _)) dX12_letter_10
