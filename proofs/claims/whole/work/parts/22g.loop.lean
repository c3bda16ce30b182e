/-! the law's loop -/
theorem l_six : ∀ L, L < 6 → ∀ i, i < 6 → (Int32.ofNat L - 6 < nI i) := by decide
theorem l_cmp {L i : Nat} (hL : L ≤ 3072) (hi : i ≤ L) (h : ¬ (Int32.ofNat L - 6 < nI i)) : i + 6 ≤ L := by
  by_cases q : L < 6
  · exact absurd (l_six L q i (by omega)) h
  · have e : Int32.ofNat L - 6 = nI (L - 6) := by
      have : nI (L - 6) + 6 = Int32.ofNat L := by
        rw [show (6 : Int32) = nI 6 from rfl, nI_add, show L - 6 + 6 = L by omega]; rfl
      rw [← this, Int32.add_sub_cancel]
    rw [e] at h
    have := Nat.not_lt.mp (fun z => h ((nI_ltI (a := L - 6) (b := i) (by omega) (by omega)).mpr z))
    omega
section LAW
variable {p : Program} {l : Launch} {e : Env} {s : State} {m : MethodId} {below : List Frame} {meth : Method} {c : Code} {Q : State → Prop} {E : zE} {b L : Nat} {xs : Nat → Int32}
set_option maxHeartbeats 4000000 in
theorem l_loop (h : lH p s m meth c E b L xs) (kx : ∀ (G : zG) (H : Heap) (locs : List Loc) (ls : Array Slot), va_S (lA s) s.heap H locs → W p l e room_1 s m #[Value.ref b] below meth c H locs 600000 7302250 Q (F0 m 1331 ls [])) :
    ∀ (n i : Nat) (G : zG) (H : Heap) (locs : List Loc) (ls : Array Slot), L < i + n → i ≤ L → zLaw G → zP E G H → va_S (lA s) s.heap H locs → lv_has ls 4 (lv4 i b E) → W p l e room_1 s m #[Value.ref b] below meth c H locs 600000 7302250 Q (F0 m 18 ls [])
  | 0, i, _, _, _, _, hn, hi, _, _, _, _ => absurd hn (by omega)
  | n + 1, i, G, H, locs, ls, hn, hiL, hG, hP, hS, hl => by
    obtain ⟨C0, hX, hbl, hD, hL⟩ := id h
    have hx := C0.1
    have hb := C0.2.1
    refine lv_iload_n hx hb dL_law_18 rfl (lv_at hl 0 rfl) ?_
    refine lv_aload_n hx hb dL_law_19 rfl (lv_at hl 3 rfl) ?_
    refine va_slen hx hb hX hbl (fun q => Nat.not_le.mpr hbl q) hS dL_law_20 ?_
    refine lv_bipush (v := (6 : Int32)) hx hb dL_law_21 (by decide) ?_
    refine lv_isub hx hb dL_law_23 ?_
    refine lv_icmp_gt (tgt := 1331) hx hb dL_law_24 (by decide) (fun _ => kx G H locs ls hS) (fun hc => ?_)
    have hi := l_cmp hL hiL hc
    have kk : ∀ (G2 : zG) (H2 : Heap) (locs2 : List Loc), zLaw G2 → zP E G2 H2 → va_S (lA s) s.heap H2 locs2 → W p l e room_1 s m #[Value.ref b] below meth c H2 locs2 600000 7302250 Q (F0 m 1325 ls []) := fun G2 H2 locs2 hG2 hP2 hS2 => by
      refine lv_iinc (k := 0) (v := nI (i + 6)) (lv' := lv4 (i + 6) b E) hx hb dL_law_1325 hl rfl (by rw [← nI_add]; rfl) (by decide) rfl (fun ls hl => ?_)
      refine lv_goto (tgt := 18) hx hb dL_law_1328 (by decide) ?_
      exact l_loop h kx n (i + 6) G2 H2 locs2 ls (by omega) hi hG2 hP2 hS2 hl
    refine lv_aload_n hx hb dL_law_27 rfl (lv_at hl 3 rfl) ?_
    refine lv_iload_n hx hb dL_law_28 rfl (lv_at hl 0 rfl) ?_
    refine va_sld hx hb hX hbl (fun q => Nat.not_le.mpr hbl q) hS (vp_in_nI (show i < L by omega) (by omega)) dL_law_29 ?_
    refine lv_bipush (v := (63 : Int32)) hx hb dL_law_30 (by decide) ?_
    refine lv_iand hx hb dL_law_32 ?_
    generalize (xs (nI i).toNatClampNeg &&& 63) = x
    rcases z_sw x 0 35 with hsw | ⟨k_, hk_, hsw⟩
    · exact lv_tableOut (tgt := 1325) hx hb dL_law_33 (z_swo hsw rfl rfl) (by decide) (kk G H locs hG hP hS)
    · rcases (show k_ = 0 ∨ k_ = 1 ∨ k_ = 2 ∨ k_ = 3 ∨ k_ = 4 ∨ k_ = 5 ∨ k_ = 6 ∨ k_ = 7 ∨ k_ = 8 ∨ k_ = 9 ∨ k_ = 10 ∨ k_ = 11 ∨ k_ = 12 ∨ k_ = 13 ∨ k_ = 14 ∨ k_ = 15 ∨ k_ = 16 ∨ k_ = 17 ∨ k_ = 18 ∨ k_ = 19 ∨ k_ = 20 ∨ k_ = 21 ∨ k_ = 22 ∨ k_ = 23 ∨ k_ = 24 ∨ k_ = 25 ∨ k_ = 26 ∨ k_ = 27 ∨ k_ = 28 ∨ k_ = 29 ∨ k_ = 30 ∨ k_ = 31 ∨ k_ = 32 ∨ k_ = 33 ∨ k_ = 34 by omega) with rfl | rfl | rfl | rfl | rfl | rfl | rfl | rfl | rfl | rfl | rfl | rfl | rfl | rfl | rfl | rfl | rfl | rfl | rfl | rfl | rfl | rfl | rfl | rfl | rfl | rfl | rfl | rfl | rfl | rfl | rfl | rfl | rfl | rfl | rfl
      · skip
        have hq : x = (0 : Int32) := z_swi hsw (by decide)
        exact lv_tableIn (tgt := 188) (off := 155) hx hb dL_law_33 (by rw [hq]; decide) (by rw [hq]; decide) (by rw [hq]; rfl) (by decide) (l_case_0 h hG hP hS hi hl kk)
      · skip
        have hq : x = (1 : Int32) := z_swi hsw (by decide)
        exact lv_tableIn (tgt := 211) (off := 178) hx hb dL_law_33 (by rw [hq]; decide) (by rw [hq]; decide) (by rw [hq]; rfl) (by decide) (l_case_1 h hG hP hS hi hl kk)
      · skip
        have hq : x = (2 : Int32) := z_swi hsw (by decide)
        exact lv_tableIn (tgt := 224) (off := 191) hx hb dL_law_33 (by rw [hq]; decide) (by rw [hq]; decide) (by rw [hq]; rfl) (by decide) (l_case_2 h hG hP hS hi hl kk)
      · skip
        have hq : x = (3 : Int32) := z_swi hsw (by decide)
        exact lv_tableIn (tgt := 257) (off := 224) hx hb dL_law_33 (by rw [hq]; decide) (by rw [hq]; decide) (by rw [hq]; rfl) (by decide) (l_case_3 h hG hP hS hi hl kk)
      · skip
        have hq : x = (4 : Int32) := z_swi hsw (by decide)
        exact lv_tableIn (tgt := 290) (off := 257) hx hb dL_law_33 (by rw [hq]; decide) (by rw [hq]; decide) (by rw [hq]; rfl) (by decide) (l_case_4 h hG hP hS hi hl kk)
      · skip
        have hq : x = (5 : Int32) := z_swi hsw (by decide)
        exact lv_tableIn (tgt := 323) (off := 290) hx hb dL_law_33 (by rw [hq]; decide) (by rw [hq]; decide) (by rw [hq]; rfl) (by decide) (l_case_5 h hG hP hS hi hl kk)
      · skip
        have hq : x = (6 : Int32) := z_swi hsw (by decide)
        exact lv_tableIn (tgt := 366) (off := 333) hx hb dL_law_33 (by rw [hq]; decide) (by rw [hq]; decide) (by rw [hq]; rfl) (by decide) (l_case_6 h hG hP hS hi hl kk)
      · skip
        have hq : x = (7 : Int32) := z_swi hsw (by decide)
        exact lv_tableIn (tgt := 399) (off := 366) hx hb dL_law_33 (by rw [hq]; decide) (by rw [hq]; decide) (by rw [hq]; rfl) (by decide) (l_case_7 h hG hP hS hi hl kk)
      · skip
        have hq : x = (8 : Int32) := z_swi hsw (by decide)
        exact lv_tableIn (tgt := 442) (off := 409) hx hb dL_law_33 (by rw [hq]; decide) (by rw [hq]; decide) (by rw [hq]; rfl) (by decide) (l_case_8 h hG hP hS hi hl kk)
      · skip
        have hq : x = (9 : Int32) := z_swi hsw (by decide)
        exact lv_tableIn (tgt := 485) (off := 452) hx hb dL_law_33 (by rw [hq]; decide) (by rw [hq]; decide) (by rw [hq]; rfl) (by decide) (l_case_9 h hG hP hS hi hl kk)
      · skip
        have hq : x = (10 : Int32) := z_swi hsw (by decide)
        exact lv_tableIn (tgt := 528) (off := 495) hx hb dL_law_33 (by rw [hq]; decide) (by rw [hq]; decide) (by rw [hq]; rfl) (by decide) (l_case_10 h hG hP hS hi hl kk)
      · skip
        have hq : x = (11 : Int32) := z_swi hsw (by decide)
        exact lv_tableIn (tgt := 561) (off := 528) hx hb dL_law_33 (by rw [hq]; decide) (by rw [hq]; decide) (by rw [hq]; rfl) (by decide) (l_case_11 h hG hP hS hi hl kk)
      · skip
        have hq : x = (12 : Int32) := z_swi hsw (by decide)
        exact lv_tableIn (tgt := 594) (off := 561) hx hb dL_law_33 (by rw [hq]; decide) (by rw [hq]; decide) (by rw [hq]; rfl) (by decide) (l_case_12 h hG hP hS hi hl kk)
      · skip
        have hq : x = (13 : Int32) := z_swi hsw (by decide)
        exact lv_tableIn (tgt := 637) (off := 604) hx hb dL_law_33 (by rw [hq]; decide) (by rw [hq]; decide) (by rw [hq]; rfl) (by decide) (l_case_13 h hG hP hS hi hl kk)
      · skip
        have hq : x = (14 : Int32) := z_swi hsw (by decide)
        exact lv_tableIn (tgt := 670) (off := 637) hx hb dL_law_33 (by rw [hq]; decide) (by rw [hq]; decide) (by rw [hq]; rfl) (by decide) (l_case_14 h hG hP hS hi hl kk)
      · skip
        have hq : x = (15 : Int32) := z_swi hsw (by decide)
        exact lv_tableIn (tgt := 693) (off := 660) hx hb dL_law_33 (by rw [hq]; decide) (by rw [hq]; decide) (by rw [hq]; rfl) (by decide) (l_case_15 h hG hP hS hi hl kk)
      · skip
        have hq : x = (16 : Int32) := z_swi hsw (by decide)
        exact lv_tableIn (tgt := 726) (off := 693) hx hb dL_law_33 (by rw [hq]; decide) (by rw [hq]; decide) (by rw [hq]; rfl) (by decide) (l_case_16 h hG hP hS hi hl kk)
      · skip
        have hq : x = (17 : Int32) := z_swi hsw (by decide)
        exact lv_tableIn (tgt := 759) (off := 726) hx hb dL_law_33 (by rw [hq]; decide) (by rw [hq]; decide) (by rw [hq]; rfl) (by decide) (l_case_17 h hG hP hS hi hl kk)
      · skip
        have hq : x = (18 : Int32) := z_swi hsw (by decide)
        exact lv_tableIn (tgt := 792) (off := 759) hx hb dL_law_33 (by rw [hq]; decide) (by rw [hq]; decide) (by rw [hq]; rfl) (by decide) (l_case_18 h hG hP hS hi hl kk)
      · skip
        have hq : x = (19 : Int32) := z_swi hsw (by decide)
        exact lv_tableIn (tgt := 815) (off := 782) hx hb dL_law_33 (by rw [hq]; decide) (by rw [hq]; decide) (by rw [hq]; rfl) (by decide) (l_case_19 h hG hP hS hi hl kk)
      · skip
        have hq : x = (20 : Int32) := z_swi hsw (by decide)
        exact lv_tableIn (tgt := 848) (off := 815) hx hb dL_law_33 (by rw [hq]; decide) (by rw [hq]; decide) (by rw [hq]; rfl) (by decide) (l_case_20 h hG hP hS hi hl kk)
      · skip
        have hq : x = (21 : Int32) := z_swi hsw (by decide)
        exact lv_tableIn (tgt := 881) (off := 848) hx hb dL_law_33 (by rw [hq]; decide) (by rw [hq]; decide) (by rw [hq]; rfl) (by decide) (l_case_21 h hG hP hS hi hl kk)
      · skip
        have hq : x = (22 : Int32) := z_swi hsw (by decide)
        exact lv_tableIn (tgt := 904) (off := 871) hx hb dL_law_33 (by rw [hq]; decide) (by rw [hq]; decide) (by rw [hq]; rfl) (by decide) (l_case_22 h hG hP hS hi hl kk)
      · skip
        have hq : x = (23 : Int32) := z_swi hsw (by decide)
        exact lv_tableIn (tgt := 968) (off := 935) hx hb dL_law_33 (by rw [hq]; decide) (by rw [hq]; decide) (by rw [hq]; rfl) (by decide) (l_case_23 h hG hP hS hi hl kk)
      · skip
        have hq : x = (24 : Int32) := z_swi hsw (by decide)
        exact lv_tableIn (tgt := 1022) (off := 989) hx hb dL_law_33 (by rw [hq]; decide) (by rw [hq]; decide) (by rw [hq]; rfl) (by decide) (l_case_24 h hG hP hS hi hl kk)
      · skip
        have hq : x = (25 : Int32) := z_swi hsw (by decide)
        exact lv_tableIn (tgt := 1065) (off := 1032) hx hb dL_law_33 (by rw [hq]; decide) (by rw [hq]; decide) (by rw [hq]; rfl) (by decide) (l_case_25 h hG hP hS hi hl kk)
      · skip
        have hq : x = (26 : Int32) := z_swi hsw (by decide)
        exact lv_tableIn (tgt := 1098) (off := 1065) hx hb dL_law_33 (by rw [hq]; decide) (by rw [hq]; decide) (by rw [hq]; rfl) (by decide) (l_case_26 h hG hP hS hi hl kk)
      · skip
        have hq : x = (27 : Int32) := z_swi hsw (by decide)
        exact lv_tableIn (tgt := 1141) (off := 1108) hx hb dL_law_33 (by rw [hq]; decide) (by rw [hq]; decide) (by rw [hq]; rfl) (by decide) (l_case_27 h hG hP hS hi hl kk)
      · skip
        have hq : x = (28 : Int32) := z_swi hsw (by decide)
        exact lv_tableIn (tgt := 1174) (off := 1141) hx hb dL_law_33 (by rw [hq]; decide) (by rw [hq]; decide) (by rw [hq]; rfl) (by decide) (l_case_28 h hG hP hS hi hl kk)
      · skip
        have hq : x = (29 : Int32) := z_swi hsw (by decide)
        exact lv_tableIn (tgt := 1197) (off := 1164) hx hb dL_law_33 (by rw [hq]; decide) (by rw [hq]; decide) (by rw [hq]; rfl) (by decide) (l_case_29 h hG hP hS hi hl kk)
      · skip
        have hq : x = (30 : Int32) := z_swi hsw (by decide)
        exact lv_tableIn (tgt := 1220) (off := 1187) hx hb dL_law_33 (by rw [hq]; decide) (by rw [hq]; decide) (by rw [hq]; rfl) (by decide) (l_case_30 h hG hP hS hi hl kk)
      · skip
        have hq : x = (31 : Int32) := z_swi hsw (by decide)
        exact lv_tableIn (tgt := 1233) (off := 1200) hx hb dL_law_33 (by rw [hq]; decide) (by rw [hq]; decide) (by rw [hq]; rfl) (by decide) (l_case_31 h hG hP hS hi hl kk)
      · skip
        have hq : x = (32 : Int32) := z_swi hsw (by decide)
        exact lv_tableIn (tgt := 1276) (off := 1243) hx hb dL_law_33 (by rw [hq]; decide) (by rw [hq]; decide) (by rw [hq]; rfl) (by decide) (l_case_32 h hG hP hS hi hl kk)
      · skip
        have hq : x = (33 : Int32) := z_swi hsw (by decide)
        exact lv_tableIn (tgt := 1289) (off := 1256) hx hb dL_law_33 (by rw [hq]; decide) (by rw [hq]; decide) (by rw [hq]; rfl) (by decide) (l_case_33 h hG hP hS hi hl kk)
      · skip
        have hq : x = (34 : Int32) := z_swi hsw (by decide)
        exact lv_tableIn (tgt := 1302) (off := 1269) hx hb dL_law_33 (by rw [hq]; decide) (by rw [hq]; decide) (by rw [hq]; rfl) (by decide) (l_case_34 h hG hP hS hi hl kk)
end LAW
