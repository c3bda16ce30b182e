section LAW
variable {p : Program} {l : Launch} {e : Env} {s : State} {m : MethodId} {below : List Frame} {meth : Method} {c : Code} {H : Heap} {locs : List Loc} {Q : State → Prop} {ls : Array Slot} {E : zE} {G : zG} {b L i : Nat} {xs : Nat → Int32}
set_option maxHeartbeats 4000000 in
theorem l_case_0 (h : lH p s m meth c E b L xs) (hG : zLaw G) (hP : zP E G H) (hS : va_S (lA s) s.heap H locs) (hi : i + 6 ≤ L) (hl : lv_has ls 4 (lv4 i b E))
    (kk : ∀ (G2 : zG) (H2 : Heap) (locs2 : List Loc), zLaw G2 → zP E G2 H2 → va_S (lA s) s.heap H2 locs2 → W p l e room_1 s m #[Value.ref b] below meth c H2 locs2 600000 7302250 Q (F0 m 1325 ls [])) : W p l e room_1 s m #[Value.ref b] below meth c H locs 600000 7302250 Q (F0 m 188 ls []) := by
  obtain ⟨C0, hX, hbl, hD, hL⟩ := id h
  have hA : ∀ q, s.heap.size ≤ q → lA s q := fun q h => h
  have hx := C0.1
  have hb := C0.2.1
  have hts := C0.2.2.2.2.1
  obtain ⟨⟨n, na, hw, hR⟩, hp, h47, h02, him, ⟨K, hK96, k2, k3⟩, h44, ⟨mm, hm12, m2, m3⟩, h46⟩ := id hG
  obtain ⟨hrn, hrna, hn10, hna, hV⟩ := id hw
  have hkd := zKd_V hV.1
  refine lv_aload_n hx hb dL_law_188 rfl (lv_at hl 2 rfl) ?_
  refine l_arg 1 h hS hl hi dL_law_189 dL_law_190 dL_law_191 dL_law_192 dL_law_193 (by decide) (by decide) rfl ?_
  refine z_Vi C0 hP hD hA hS (As := [.int (xs (i + 1))]) (rest := []) (k := 0) (c_X11_letter l E G (G 44) K rfl k2 hK96 (xs (i + 1)) hp) (cwV 1 hts (zgV (fun _ h => h) mlRL_13 imX11_letter seX11_letter iniRX11 coX11_letter) rfl rfl rfl (by decide +kernel) ⟨Nat.le_of_ble_eq_true rfl, Nat.le_of_ble_eq_true rfl⟩) (zk_lt (rfl : zk 0 = 9) (by decide)) (zd_9 E (rfl : zk 0 = 9) _) rfl rfl rfl hl.1 rfl (Nat.le_of_ble_eq_true rfl) dL_law_194 ⟨Nat.le_refl _, Nat.le_refl _⟩ (fun r1 G1 H locs hw1 hP hS => ?_)
  have hF : ∀ k, 91 < k → G1 k = G k := fun k hk => hw1.2.1 k (by omega)
  refine lv_aload_n hx hb dL_law_197 rfl (lv_at hl 1 rfl) ?_
  refine l_arg 1 h hS hl hi dL_law_198 dL_law_199 dL_law_200 dL_law_201 dL_law_202 (by decide) (by decide) rfl ?_
  refine z_Vi C0 hP hD hA hS (As := [.int (xs (i + 1))]) (rest := [.int r1]) (k := 92) (c_X12_letter l E G1 (G 44) K (xs (i + 1)) ((hF 97 (by omega)).trans h44.symm) ((congrFun (hF 92 (by omega)) 8).trans k3) hK96) (cwV 1 hts (zgV (fun _ h => h) mlRL_17 imX12_letter seX12_letter iniRX12 coX12_letter) rfl rfl rfl (by decide +kernel) ⟨Nat.le_of_ble_eq_true rfl, Nat.le_of_ble_eq_true rfl⟩) (zk_lt (rfl : zk 92 = 10) (by decide)) (zd_10 E (rfl : zk 92 = 10) _) rfl rfl rfl hl.1 rfl (Nat.le_of_ble_eq_true rfl) dL_law_203 ⟨Nat.le_refl _, Nat.le_refl _⟩ (fun r2 G2 H locs hw2 hP hS => ?_)
  obtain ⟨e1, hG2⟩ := zLaw_t hG hw1 hw2 rfl (R_letter_k hK96)
  exact lv_icmp_eq (tgt := 1325) hx hb dL_law_206 (by decide) (fun _ => kk G2 H locs hG2 hP hS) (fun q => absurd e1 q)
set_option maxHeartbeats 4000000 in
theorem l_case_1 (h : lH p s m meth c E b L xs) (hG : zLaw G) (hP : zP E G H) (hS : va_S (lA s) s.heap H locs) (hi : i + 6 ≤ L) (hl : lv_has ls 4 (lv4 i b E))
    (kk : ∀ (G2 : zG) (H2 : Heap) (locs2 : List Loc), zLaw G2 → zP E G2 H2 → va_S (lA s) s.heap H2 locs2 → W p l e room_1 s m #[Value.ref b] below meth c H2 locs2 600000 7302250 Q (F0 m 1325 ls [])) : W p l e room_1 s m #[Value.ref b] below meth c H locs 600000 7302250 Q (F0 m 211 ls []) := by
  obtain ⟨C0, hX, hbl, hD, hL⟩ := id h
  have hA : ∀ q, s.heap.size ≤ q → lA s q := fun q h => h
  have hx := C0.1
  have hb := C0.2.1
  have hts := C0.2.2.2.2.1
  obtain ⟨⟨n, na, hw, hR⟩, hp, h47, h02, him, ⟨K, hK96, k2, k3⟩, h44, ⟨mm, hm12, m2, m3⟩, h46⟩ := id hG
  obtain ⟨hrn, hrna, hn10, hna, hV⟩ := id hw
  have hkd := zKd_V hV.1
  refine lv_aload_n hx hb dL_law_211 rfl (lv_at hl 2 rfl) ?_
  refine z_Vi C0 hP hD hA hS (As := []) (rest := []) (k := 0) (c_X11_race l E G (G 44) K rfl k2 hK96 (G 93) n na hR hn10 hna) (cwV 0 hts (zgV (fun _ h => h) mlRL_18 imX11_race seX11_race iniRX11 coX11_race) rfl rfl rfl (by decide +kernel) ⟨Nat.le_of_ble_eq_true rfl, Nat.le_of_ble_eq_true rfl⟩) (zk_lt (rfl : zk 0 = 9) (by decide)) (zd_9 E (rfl : zk 0 = 9) _) rfl rfl rfl hl.1 rfl (Nat.le_of_ble_eq_true rfl) dL_law_212 ⟨Nat.le_refl _, Nat.le_refl _⟩ (fun r1 G1 H locs hw1 hP hS => ?_)
  have hF : ∀ k, 91 < k → G1 k = G k := by
    obtain ⟨_, _, _, _, _, f, _⟩ := hw1
    exact fun k hk => f k (by omega)
  refine lv_aload_n hx hb dL_law_215 rfl (lv_at hl 1 rfl) ?_
  obtain ⟨m0, hm0⟩ := nI_ex (G1 92 15)
  refine z_Vi C0 hP hD hA hS (As := []) (rest := [.int r1]) (k := 92) (c_X12_race l E G1 (G 44) K m0 ((hF 97 (by omega)).trans h44.symm) ((congrFun (hF 92 (by omega)) 8).trans k3) hm0 hK96 (G 93) n na (hF 93 (by omega)) hw) (cwV 0 hts (zgV (fun _ h => h) mlRL_22 imX12_race seX12_race iniRX12 coX12_race) rfl rfl rfl (by decide +kernel) ⟨Nat.le_of_ble_eq_true rfl, Nat.le_of_ble_eq_true rfl⟩) (zk_lt (rfl : zk 92 = 10) (by decide)) (zd_10 E (rfl : zk 92 = 10) _) rfl rfl rfl hl.1 rfl (Nat.le_of_ble_eq_true rfl) dL_law_216 ⟨Nat.le_refl _, Nat.le_refl _⟩ (fun r2 G2 H locs hw2 hP hS => ?_)
  obtain ⟨e1, hG2⟩ := zLaw_x hG hK96 hw hw1 hw2
  exact lv_icmp_eq (tgt := 1325) hx hb dL_law_219 (by decide) (fun _ => kk G2 H locs hG2 hP hS) (fun q => absurd e1 q)
set_option maxHeartbeats 4000000 in
theorem l_case_2 (h : lH p s m meth c E b L xs) (hG : zLaw G) (hP : zP E G H) (hS : va_S (lA s) s.heap H locs) (hi : i + 6 ≤ L) (hl : lv_has ls 4 (lv4 i b E))
    (kk : ∀ (G2 : zG) (H2 : Heap) (locs2 : List Loc), zLaw G2 → zP E G2 H2 → va_S (lA s) s.heap H2 locs2 → W p l e room_1 s m #[Value.ref b] below meth c H2 locs2 600000 7302250 Q (F0 m 1325 ls [])) : W p l e room_1 s m #[Value.ref b] below meth c H locs 600000 7302250 Q (F0 m 224 ls []) := by
  obtain ⟨C0, hX, hbl, hD, hL⟩ := id h
  have hA : ∀ q, s.heap.size ≤ q → lA s q := fun q h => h
  have hx := C0.1
  have hb := C0.2.1
  have hts := C0.2.2.2.2.1
  obtain ⟨⟨n, na, hw, hR⟩, hp, h47, h02, him, ⟨K, hK96, k2, k3⟩, h44, ⟨mm, hm12, m2, m3⟩, h46⟩ := id hG
  obtain ⟨hrn, hrna, hn10, hna, hV⟩ := id hw
  have hkd := zKd_V hV.1
  refine lv_aload_n hx hb dL_law_224 rfl (lv_at hl 2 rfl) ?_
  refine l_arg 1 h hS hl hi dL_law_225 dL_law_226 dL_law_227 dL_law_228 dL_law_229 (by decide) (by decide) rfl ?_
  refine l_arg 2 h hS hl hi dL_law_230 dL_law_231 dL_law_232 dL_law_233 dL_law_234 (by decide) (by decide) rfl ?_
  refine z_Vi C0 hP hD hA hS (As := [.int (xs (i + 1)), .int (xs (i + 2))]) (rest := []) (k := 0) (c_X11_section l E G (G 93) n na (xs (i + 1)) (xs (i + 2)) hR hn10 hna hp) (cwV 2 hts (zgV (fun _ h => h) mlRL_23 imX11_section seX11_section iniRX11 coX11_section) rfl rfl rfl (by decide +kernel) ⟨Nat.le_of_ble_eq_true rfl, Nat.le_of_ble_eq_true rfl⟩) (zk_lt (rfl : zk 0 = 9) (by decide)) (zd_9 E (rfl : zk 0 = 9) _) rfl rfl rfl hl.1 rfl (Nat.le_of_ble_eq_true rfl) dL_law_235 ⟨Nat.le_refl _, Nat.le_refl _⟩ (fun r1 G1 H locs hw1 hP hS => ?_)
  have hF : ∀ k, 91 < k → G1 k = G k := fun k hk => hw1.2.1 k (by omega)
  refine lv_aload_n hx hb dL_law_238 rfl (lv_at hl 1 rfl) ?_
  refine l_arg 1 h hS hl hi dL_law_239 dL_law_240 dL_law_241 dL_law_242 dL_law_243 (by decide) (by decide) rfl ?_
  refine l_arg 2 h hS hl hi dL_law_244 dL_law_245 dL_law_246 dL_law_247 dL_law_248 (by decide) (by decide) rfl ?_
  refine z_Vi C0 hP hD hA hS (As := [.int (xs (i + 1)), .int (xs (i + 2))]) (rest := [.int r1]) (k := 92) (c_X12_section l E G1 (G 93) n na (xs (i + 1)) (xs (i + 2)) (hF 93 (by omega)) hrn hrna hn10 hna hkd) (cwV 2 hts (zgV (fun _ h => h) mlRL_27 imX12_section seX12_section iniRX12 coX12_section) rfl rfl rfl (by decide +kernel) ⟨Nat.le_of_ble_eq_true rfl, Nat.le_of_ble_eq_true rfl⟩) (zk_lt (rfl : zk 92 = 10) (by decide)) (zd_10 E (rfl : zk 92 = 10) _) rfl rfl rfl hl.1 rfl (Nat.le_of_ble_eq_true rfl) dL_law_249 ⟨Nat.le_refl _, Nat.le_refl _⟩ (fun r2 G2 H locs hw2 hP hS => ?_)
  obtain ⟨e1, hG2⟩ := zLaw_q hG hw1 hw2 rfl
  exact lv_icmp_eq (tgt := 1325) hx hb dL_law_252 (by decide) (fun _ => kk G2 H locs hG2 hP hS) (fun q => absurd e1 q)
set_option maxHeartbeats 4000000 in
theorem l_case_3 (h : lH p s m meth c E b L xs) (hG : zLaw G) (hP : zP E G H) (hS : va_S (lA s) s.heap H locs) (hi : i + 6 ≤ L) (hl : lv_has ls 4 (lv4 i b E))
    (kk : ∀ (G2 : zG) (H2 : Heap) (locs2 : List Loc), zLaw G2 → zP E G2 H2 → va_S (lA s) s.heap H2 locs2 → W p l e room_1 s m #[Value.ref b] below meth c H2 locs2 600000 7302250 Q (F0 m 1325 ls [])) : W p l e room_1 s m #[Value.ref b] below meth c H locs 600000 7302250 Q (F0 m 257 ls []) := by
  obtain ⟨C0, hX, hbl, hD, hL⟩ := id h
  have hA : ∀ q, s.heap.size ≤ q → lA s q := fun q h => h
  have hx := C0.1
  have hb := C0.2.1
  have hts := C0.2.2.2.2.1
  obtain ⟨⟨n, na, hw, hR⟩, hp, h47, h02, him, ⟨K, hK96, k2, k3⟩, h44, ⟨mm, hm12, m2, m3⟩, h46⟩ := id hG
  obtain ⟨hrn, hrna, hn10, hna, hV⟩ := id hw
  have hkd := zKd_V hV.1
  refine lv_aload_n hx hb dL_law_257 rfl (lv_at hl 2 rfl) ?_
  refine l_arg 1 h hS hl hi dL_law_258 dL_law_259 dL_law_260 dL_law_261 dL_law_262 (by decide) (by decide) rfl ?_
  refine l_arg 2 h hS hl hi dL_law_263 dL_law_264 dL_law_265 dL_law_266 dL_law_267 (by decide) (by decide) rfl ?_
  refine z_Vi C0 hP hD hA hS (As := [.int (xs (i + 1)), .int (xs (i + 2))]) (rest := []) (k := 0) (c_X11_athlete l E G (G 93) n na (xs (i + 1)) (xs (i + 2)) hR hn10 hna hp) (cwV 2 hts (zgV (fun _ h => h) mlRL_28 imX11_athlete seX11_athlete iniRX11 coX11_athlete) rfl rfl rfl (by decide +kernel) ⟨Nat.le_of_ble_eq_true rfl, Nat.le_of_ble_eq_true rfl⟩) (zk_lt (rfl : zk 0 = 9) (by decide)) (zd_9 E (rfl : zk 0 = 9) _) rfl rfl rfl hl.1 rfl (Nat.le_of_ble_eq_true rfl) dL_law_268 ⟨Nat.le_refl _, Nat.le_refl _⟩ (fun r1 G1 H locs hw1 hP hS => ?_)
  have hF : ∀ k, 91 < k → G1 k = G k := fun k hk => hw1.2.1 k (by omega)
  refine lv_aload_n hx hb dL_law_271 rfl (lv_at hl 1 rfl) ?_
  refine l_arg 1 h hS hl hi dL_law_272 dL_law_273 dL_law_274 dL_law_275 dL_law_276 (by decide) (by decide) rfl ?_
  refine l_arg 2 h hS hl hi dL_law_277 dL_law_278 dL_law_279 dL_law_280 dL_law_281 (by decide) (by decide) rfl ?_
  refine z_Vi C0 hP hD hA hS (As := [.int (xs (i + 1)), .int (xs (i + 2))]) (rest := [.int r1]) (k := 92) (c_X12_athlete l E G1 (G 93) n na (xs (i + 1)) (xs (i + 2)) (hF 93 (by omega)) hrn hrna hn10 hna) (cwV 2 hts (zgV (fun _ h => h) mlRL_31 imX12_athlete seX12_athlete iniRX12 coX12_athlete) rfl rfl rfl (by decide +kernel) ⟨Nat.le_of_ble_eq_true rfl, Nat.le_of_ble_eq_true rfl⟩) (zk_lt (rfl : zk 92 = 10) (by decide)) (zd_10 E (rfl : zk 92 = 10) _) rfl rfl rfl hl.1 rfl (Nat.le_of_ble_eq_true rfl) dL_law_282 ⟨Nat.le_refl _, Nat.le_refl _⟩ (fun r2 G2 H locs hw2 hP hS => ?_)
  obtain ⟨e1, hG2⟩ := zLaw_q hG hw1 hw2 rfl
  exact lv_icmp_eq (tgt := 1325) hx hb dL_law_285 (by decide) (fun _ => kk G2 H locs hG2 hP hS) (fun q => absurd e1 q)
set_option maxHeartbeats 4000000 in
theorem l_case_4 (h : lH p s m meth c E b L xs) (hG : zLaw G) (hP : zP E G H) (hS : va_S (lA s) s.heap H locs) (hi : i + 6 ≤ L) (hl : lv_has ls 4 (lv4 i b E))
    (kk : ∀ (G2 : zG) (H2 : Heap) (locs2 : List Loc), zLaw G2 → zP E G2 H2 → va_S (lA s) s.heap H2 locs2 → W p l e room_1 s m #[Value.ref b] below meth c H2 locs2 600000 7302250 Q (F0 m 1325 ls [])) : W p l e room_1 s m #[Value.ref b] below meth c H locs 600000 7302250 Q (F0 m 290 ls []) := by
  obtain ⟨C0, hX, hbl, hD, hL⟩ := id h
  have hA : ∀ q, s.heap.size ≤ q → lA s q := fun q h => h
  have hx := C0.1
  have hb := C0.2.1
  have hts := C0.2.2.2.2.1
  obtain ⟨⟨n, na, hw, hR⟩, hp, h47, h02, him, ⟨K, hK96, k2, k3⟩, h44, ⟨mm, hm12, m2, m3⟩, h46⟩ := id hG
  obtain ⟨hrn, hrna, hn10, hna, hV⟩ := id hw
  have hkd := zKd_V hV.1
  refine lv_aload_n hx hb dL_law_290 rfl (lv_at hl 2 rfl) ?_
  refine l_arg 1 h hS hl hi dL_law_291 dL_law_292 dL_law_293 dL_law_294 dL_law_295 (by decide) (by decide) rfl ?_
  refine l_arg 2 h hS hl hi dL_law_296 dL_law_297 dL_law_298 dL_law_299 dL_law_300 (by decide) (by decide) rfl ?_
  refine z_Vi C0 hP hD hA hS (As := [.int (xs (i + 1)), .int (xs (i + 2))]) (rest := []) (k := 0) (c_X11_tries l E G (G 93) n na (xs (i + 1)) (xs (i + 2)) hR hn10 hna hp) (cwV 2 hts (zgV (fun _ h => h) mlRL_32 imX11_tries seX11_tries iniRX11 coX11_tries) rfl rfl rfl (by decide +kernel) ⟨Nat.le_of_ble_eq_true rfl, Nat.le_of_ble_eq_true rfl⟩) (zk_lt (rfl : zk 0 = 9) (by decide)) (zd_9 E (rfl : zk 0 = 9) _) rfl rfl rfl hl.1 rfl (Nat.le_of_ble_eq_true rfl) dL_law_301 ⟨Nat.le_refl _, Nat.le_refl _⟩ (fun r1 G1 H locs hw1 hP hS => ?_)
  have hF : ∀ k, 91 < k → G1 k = G k := fun k hk => hw1.2.1 k (by omega)
  refine lv_aload_n hx hb dL_law_304 rfl (lv_at hl 1 rfl) ?_
  refine l_arg 1 h hS hl hi dL_law_305 dL_law_306 dL_law_307 dL_law_308 dL_law_309 (by decide) (by decide) rfl ?_
  refine l_arg 2 h hS hl hi dL_law_310 dL_law_311 dL_law_312 dL_law_313 dL_law_314 (by decide) (by decide) rfl ?_
  refine z_Vi C0 hP hD hA hS (As := [.int (xs (i + 1)), .int (xs (i + 2))]) (rest := [.int r1]) (k := 92) (c_X12_tries l E G1 (G 93) n na (xs (i + 1)) (xs (i + 2)) (hF 93 (by omega)) hrn hrna hn10 hna) (cwV 2 hts (zgV (fun _ h => h) mlRL_35 imX12_tries seX12_tries iniRX12 coX12_tries) rfl rfl rfl (by decide +kernel) ⟨Nat.le_of_ble_eq_true rfl, Nat.le_of_ble_eq_true rfl⟩) (zk_lt (rfl : zk 92 = 10) (by decide)) (zd_10 E (rfl : zk 92 = 10) _) rfl rfl rfl hl.1 rfl (Nat.le_of_ble_eq_true rfl) dL_law_315 ⟨Nat.le_refl _, Nat.le_refl _⟩ (fun r2 G2 H locs hw2 hP hS => ?_)
  obtain ⟨e1, hG2⟩ := zLaw_q hG hw1 hw2 rfl
  exact lv_icmp_eq (tgt := 1325) hx hb dL_law_318 (by decide) (fun _ => kk G2 H locs hG2 hP hS) (fun q => absurd e1 q)
set_option maxHeartbeats 4000000 in
theorem l_case_5 (h : lH p s m meth c E b L xs) (hG : zLaw G) (hP : zP E G H) (hS : va_S (lA s) s.heap H locs) (hi : i + 6 ≤ L) (hl : lv_has ls 4 (lv4 i b E))
    (kk : ∀ (G2 : zG) (H2 : Heap) (locs2 : List Loc), zLaw G2 → zP E G2 H2 → va_S (lA s) s.heap H2 locs2 → W p l e room_1 s m #[Value.ref b] below meth c H2 locs2 600000 7302250 Q (F0 m 1325 ls [])) : W p l e room_1 s m #[Value.ref b] below meth c H locs 600000 7302250 Q (F0 m 323 ls []) := by
  obtain ⟨C0, hX, hbl, hD, hL⟩ := id h
  have hA : ∀ q, s.heap.size ≤ q → lA s q := fun q h => h
  have hx := C0.1
  have hb := C0.2.1
  have hts := C0.2.2.2.2.1
  obtain ⟨⟨n, na, hw, hR⟩, hp, h47, h02, him, ⟨K, hK96, k2, k3⟩, h44, ⟨mm, hm12, m2, m3⟩, h46⟩ := id hG
  obtain ⟨hrn, hrna, hn10, hna, hV⟩ := id hw
  have hkd := zKd_V hV.1
  refine lv_aload_n hx hb dL_law_323 rfl (lv_at hl 2 rfl) ?_
  refine l_arg 1 h hS hl hi dL_law_324 dL_law_325 dL_law_326 dL_law_327 dL_law_328 (by decide) (by decide) rfl ?_
  refine l_arg 2 h hS hl hi dL_law_329 dL_law_330 dL_law_331 dL_law_332 dL_law_333 (by decide) (by decide) rfl ?_
  refine l_arg 3 h hS hl hi dL_law_334 dL_law_335 dL_law_336 dL_law_337 dL_law_338 (by decide) (by decide) rfl ?_
  refine z_Vi C0 hP hD hA hS (As := [.int (xs (i + 1)), .int (xs (i + 2)), .int (xs (i + 3))]) (rest := []) (k := 0) (c_X11_turn l E G (G 93) n na (xs (i + 1)) (xs (i + 2)) (xs (i + 3)) hR hn10 hna hp) (cwV 3 hts (zgV (fun _ h => h) mlRL_36 imX11_turn seX11_turn iniRX11 coX11_turn) rfl rfl rfl (by decide +kernel) ⟨Nat.le_of_ble_eq_true rfl, Nat.le_of_ble_eq_true rfl⟩) (zk_lt (rfl : zk 0 = 9) (by decide)) (zd_9 E (rfl : zk 0 = 9) _) rfl rfl rfl hl.1 rfl (Nat.le_of_ble_eq_true rfl) dL_law_339 ⟨Nat.le_refl _, Nat.le_refl _⟩ (fun r1 G1 H locs hw1 hP hS => ?_)
  have hF : ∀ k, 91 < k → G1 k = G k := fun k hk => hw1.2.1 k (by omega)
  refine lv_aload_n hx hb dL_law_342 rfl (lv_at hl 1 rfl) ?_
  refine l_arg 1 h hS hl hi dL_law_343 dL_law_344 dL_law_345 dL_law_346 dL_law_347 (by decide) (by decide) rfl ?_
  refine l_arg 2 h hS hl hi dL_law_348 dL_law_349 dL_law_350 dL_law_351 dL_law_352 (by decide) (by decide) rfl ?_
  refine l_arg 3 h hS hl hi dL_law_353 dL_law_354 dL_law_355 dL_law_356 dL_law_357 (by decide) (by decide) rfl ?_
  refine z_Vi C0 hP hD hA hS (As := [.int (xs (i + 1)), .int (xs (i + 2)), .int (xs (i + 3))]) (rest := [.int r1]) (k := 92) (c_X12_turn l E G1 (G 93) n na (xs (i + 1)) (xs (i + 2)) (xs (i + 3)) (hF 93 (by omega)) hrn hrna hn10 hna) (cwV 3 hts (zgV (fun _ h => h) mlRL_40 imX12_turn seX12_turn iniRX12 coX12_turn) rfl rfl rfl (by decide +kernel) ⟨Nat.le_of_ble_eq_true rfl, Nat.le_of_ble_eq_true rfl⟩) (zk_lt (rfl : zk 92 = 10) (by decide)) (zd_10 E (rfl : zk 92 = 10) _) rfl rfl rfl hl.1 rfl (Nat.le_of_ble_eq_true rfl) dL_law_358 ⟨Nat.le_refl _, Nat.le_refl _⟩ (fun r2 G2 H locs hw2 hP hS => ?_)
  obtain ⟨e1, hG2⟩ := zLaw_u hG hw1 hw2 rfl (u_turn_k hw)
  exact lv_icmp_eq (tgt := 1325) hx hb dL_law_361 (by decide) (fun _ => kk G2 H locs hG2 hP hS) (fun q => absurd e1 q)
set_option maxHeartbeats 4000000 in
theorem l_case_6 (h : lH p s m meth c E b L xs) (hG : zLaw G) (hP : zP E G H) (hS : va_S (lA s) s.heap H locs) (hi : i + 6 ≤ L) (hl : lv_has ls 4 (lv4 i b E))
    (kk : ∀ (G2 : zG) (H2 : Heap) (locs2 : List Loc), zLaw G2 → zP E G2 H2 → va_S (lA s) s.heap H2 locs2 → W p l e room_1 s m #[Value.ref b] below meth c H2 locs2 600000 7302250 Q (F0 m 1325 ls [])) : W p l e room_1 s m #[Value.ref b] below meth c H locs 600000 7302250 Q (F0 m 366 ls []) := by
  obtain ⟨C0, hX, hbl, hD, hL⟩ := id h
  have hA : ∀ q, s.heap.size ≤ q → lA s q := fun q h => h
  have hx := C0.1
  have hb := C0.2.1
  have hts := C0.2.2.2.2.1
  obtain ⟨⟨n, na, hw, hR⟩, hp, h47, h02, him, ⟨K, hK96, k2, k3⟩, h44, ⟨mm, hm12, m2, m3⟩, h46⟩ := id hG
  obtain ⟨hrn, hrna, hn10, hna, hV⟩ := id hw
  have hkd := zKd_V hV.1
  refine lv_aload_n hx hb dL_law_366 rfl (lv_at hl 2 rfl) ?_
  refine l_arg 1 h hS hl hi dL_law_367 dL_law_368 dL_law_369 dL_law_370 dL_law_371 (by decide) (by decide) rfl ?_
  refine l_arg 2 h hS hl hi dL_law_372 dL_law_373 dL_law_374 dL_law_375 dL_law_376 (by decide) (by decide) rfl ?_
  refine z_Vi C0 hP hD hA hS (As := [.int (xs (i + 1)), .int (xs (i + 2))]) (rest := []) (k := 0) (c_X11_swap l E G (G 93) n na (xs (i + 1)) (xs (i + 2)) hR hn10 hna hp) (cwV 2 hts (zgV (fun _ h => h) mlRL_41 imX11_swap seX11_swap iniRX11 coX11_swap) rfl rfl rfl (by decide +kernel) ⟨Nat.le_of_ble_eq_true rfl, Nat.le_of_ble_eq_true rfl⟩) (zk_lt (rfl : zk 0 = 9) (by decide)) (zd_9 E (rfl : zk 0 = 9) _) rfl rfl rfl hl.1 rfl (Nat.le_of_ble_eq_true rfl) dL_law_377 ⟨Nat.le_refl _, Nat.le_refl _⟩ (fun r1 G1 H locs hw1 hP hS => ?_)
  have hF : ∀ k, 91 < k → G1 k = G k := fun k hk => hw1.2.1 k (by omega)
  refine lv_aload_n hx hb dL_law_380 rfl (lv_at hl 1 rfl) ?_
  refine l_arg 1 h hS hl hi dL_law_381 dL_law_382 dL_law_383 dL_law_384 dL_law_385 (by decide) (by decide) rfl ?_
  refine l_arg 2 h hS hl hi dL_law_386 dL_law_387 dL_law_388 dL_law_389 dL_law_390 (by decide) (by decide) rfl ?_
  refine z_Vi C0 hP hD hA hS (As := [.int (xs (i + 1)), .int (xs (i + 2))]) (rest := [.int r1]) (k := 92) (c_X12_swap l E G1 (G 93) n na (xs (i + 1)) (xs (i + 2)) (hF 93 (by omega)) hrn hrna hn10 hna) (cwV 2 hts (zgV (fun _ h => h) mlRL_44 imX12_swap seX12_swap iniRX12 coX12_swap) rfl rfl rfl (by decide +kernel) ⟨Nat.le_of_ble_eq_true rfl, Nat.le_of_ble_eq_true rfl⟩) (zk_lt (rfl : zk 92 = 10) (by decide)) (zd_10 E (rfl : zk 92 = 10) _) rfl rfl rfl hl.1 rfl (Nat.le_of_ble_eq_true rfl) dL_law_391 ⟨Nat.le_refl _, Nat.le_refl _⟩ (fun r2 G2 H locs hw2 hP hS => ?_)
  obtain ⟨e1, hG2⟩ := zLaw_u hG hw1 hw2 rfl (u_swap_k hw)
  exact lv_icmp_eq (tgt := 1325) hx hb dL_law_394 (by decide) (fun _ => kk G2 H locs hG2 hP hS) (fun q => absurd e1 q)
set_option maxHeartbeats 4000000 in
theorem l_case_7 (h : lH p s m meth c E b L xs) (hG : zLaw G) (hP : zP E G H) (hS : va_S (lA s) s.heap H locs) (hi : i + 6 ≤ L) (hl : lv_has ls 4 (lv4 i b E))
    (kk : ∀ (G2 : zG) (H2 : Heap) (locs2 : List Loc), zLaw G2 → zP E G2 H2 → va_S (lA s) s.heap H2 locs2 → W p l e room_1 s m #[Value.ref b] below meth c H2 locs2 600000 7302250 Q (F0 m 1325 ls [])) : W p l e room_1 s m #[Value.ref b] below meth c H locs 600000 7302250 Q (F0 m 399 ls []) := by
  obtain ⟨C0, hX, hbl, hD, hL⟩ := id h
  have hA : ∀ q, s.heap.size ≤ q → lA s q := fun q h => h
  have hx := C0.1
  have hb := C0.2.1
  have hts := C0.2.2.2.2.1
  obtain ⟨⟨n, na, hw, hR⟩, hp, h47, h02, him, ⟨K, hK96, k2, k3⟩, h44, ⟨mm, hm12, m2, m3⟩, h46⟩ := id hG
  obtain ⟨hrn, hrna, hn10, hna, hV⟩ := id hw
  have hkd := zKd_V hV.1
  refine lv_aload_n hx hb dL_law_399 rfl (lv_at hl 2 rfl) ?_
  refine l_arg 1 h hS hl hi dL_law_400 dL_law_401 dL_law_402 dL_law_403 dL_law_404 (by decide) (by decide) rfl ?_
  refine l_arg 2 h hS hl hi dL_law_405 dL_law_406 dL_law_407 dL_law_408 dL_law_409 (by decide) (by decide) rfl ?_
  refine l_arg 3 h hS hl hi dL_law_410 dL_law_411 dL_law_412 dL_law_413 dL_law_414 (by decide) (by decide) rfl ?_
  refine z_Vi C0 hP hD hA hS (As := [.int (xs (i + 1)), .int (xs (i + 2)), .int (xs (i + 3))]) (rest := []) (k := 0) (c_X11_skill l E G (G 93) n na (xs (i + 1)) (xs (i + 2)) (xs (i + 3)) hR hn10 hna hp) (cwV 3 hts (zgV (fun _ h => h) mlRL_45 imX11_skill seX11_skill iniRX11 coX11_skill) rfl rfl rfl (by decide +kernel) ⟨Nat.le_of_ble_eq_true rfl, Nat.le_of_ble_eq_true rfl⟩) (zk_lt (rfl : zk 0 = 9) (by decide)) (zd_9 E (rfl : zk 0 = 9) _) rfl rfl rfl hl.1 rfl (Nat.le_of_ble_eq_true rfl) dL_law_415 ⟨Nat.le_refl _, Nat.le_refl _⟩ (fun r1 G1 H locs hw1 hP hS => ?_)
  have hF : ∀ k, 91 < k → G1 k = G k := fun k hk => hw1.2.1 k (by omega)
  refine lv_aload_n hx hb dL_law_418 rfl (lv_at hl 1 rfl) ?_
  refine l_arg 1 h hS hl hi dL_law_419 dL_law_420 dL_law_421 dL_law_422 dL_law_423 (by decide) (by decide) rfl ?_
  refine l_arg 2 h hS hl hi dL_law_424 dL_law_425 dL_law_426 dL_law_427 dL_law_428 (by decide) (by decide) rfl ?_
  refine l_arg 3 h hS hl hi dL_law_429 dL_law_430 dL_law_431 dL_law_432 dL_law_433 (by decide) (by decide) rfl ?_
  refine z_Vi C0 hP hD hA hS (As := [.int (xs (i + 1)), .int (xs (i + 2)), .int (xs (i + 3))]) (rest := [.int r1]) (k := 92) (c_X12_skill l E G1 (G 93) n na (xs (i + 1)) (xs (i + 2)) (xs (i + 3)) (hF 93 (by omega)) hrn hrna hn10 hna) (cwV 3 hts (zgV (fun _ h => h) mlRL_48 imX12_skill seX12_skill iniRX12 coX12_skill) rfl rfl rfl (by decide +kernel) ⟨Nat.le_of_ble_eq_true rfl, Nat.le_of_ble_eq_true rfl⟩) (zk_lt (rfl : zk 92 = 10) (by decide)) (zd_10 E (rfl : zk 92 = 10) _) rfl rfl rfl hl.1 rfl (Nat.le_of_ble_eq_true rfl) dL_law_434 ⟨Nat.le_refl _, Nat.le_refl _⟩ (fun r2 G2 H locs hw2 hP hS => ?_)
  obtain ⟨e1, hG2⟩ := zLaw_u hG hw1 hw2 rfl (u_skill_k hw)
  exact lv_icmp_eq (tgt := 1325) hx hb dL_law_437 (by decide) (fun _ => kk G2 H locs hG2 hP hS) (fun q => absurd e1 q)
set_option maxHeartbeats 4000000 in
theorem l_case_8 (h : lH p s m meth c E b L xs) (hG : zLaw G) (hP : zP E G H) (hS : va_S (lA s) s.heap H locs) (hi : i + 6 ≤ L) (hl : lv_has ls 4 (lv4 i b E))
    (kk : ∀ (G2 : zG) (H2 : Heap) (locs2 : List Loc), zLaw G2 → zP E G2 H2 → va_S (lA s) s.heap H2 locs2 → W p l e room_1 s m #[Value.ref b] below meth c H2 locs2 600000 7302250 Q (F0 m 1325 ls [])) : W p l e room_1 s m #[Value.ref b] below meth c H locs 600000 7302250 Q (F0 m 442 ls []) := by
  obtain ⟨C0, hX, hbl, hD, hL⟩ := id h
  have hA : ∀ q, s.heap.size ≤ q → lA s q := fun q h => h
  have hx := C0.1
  have hb := C0.2.1
  have hts := C0.2.2.2.2.1
  obtain ⟨⟨n, na, hw, hR⟩, hp, h47, h02, him, ⟨K, hK96, k2, k3⟩, h44, ⟨mm, hm12, m2, m3⟩, h46⟩ := id hG
  obtain ⟨hrn, hrna, hn10, hna, hV⟩ := id hw
  have hkd := zKd_V hV.1
  refine lv_aload_n hx hb dL_law_442 rfl (lv_at hl 2 rfl) ?_
  refine l_arg 1 h hS hl hi dL_law_443 dL_law_444 dL_law_445 dL_law_446 dL_law_447 (by decide) (by decide) rfl ?_
  refine l_arg 2 h hS hl hi dL_law_448 dL_law_449 dL_law_450 dL_law_451 dL_law_452 (by decide) (by decide) rfl ?_
  refine l_arg 3 h hS hl hi dL_law_453 dL_law_454 dL_law_455 dL_law_456 dL_law_457 (by decide) (by decide) rfl ?_
  refine z_Vi C0 hP hD hA hS (As := [.int (xs (i + 1)), .int (xs (i + 2)), .int (xs (i + 3))]) (rest := []) (k := 0) (c_X11_tryHard l E G (G 93) n na (xs (i + 1)) (xs (i + 2)) (xs (i + 3)) hR hn10 hna hp) (cwV 3 hts (zgV (fun _ h => h) mlRL_49 imX11_tryHard seX11_tryHard iniRX11 coX11_tryHard) rfl rfl rfl (by decide +kernel) ⟨Nat.le_of_ble_eq_true rfl, Nat.le_of_ble_eq_true rfl⟩) (zk_lt (rfl : zk 0 = 9) (by decide)) (zd_9 E (rfl : zk 0 = 9) _) rfl rfl rfl hl.1 rfl (Nat.le_of_ble_eq_true rfl) dL_law_458 ⟨Nat.le_refl _, Nat.le_refl _⟩ (fun r1 G1 H locs hw1 hP hS => ?_)
  have hF : ∀ k, 91 < k → G1 k = G k := fun k hk => hw1.2.1 k (by omega)
  refine lv_aload_n hx hb dL_law_461 rfl (lv_at hl 1 rfl) ?_
  refine l_arg 1 h hS hl hi dL_law_462 dL_law_463 dL_law_464 dL_law_465 dL_law_466 (by decide) (by decide) rfl ?_
  refine l_arg 2 h hS hl hi dL_law_467 dL_law_468 dL_law_469 dL_law_470 dL_law_471 (by decide) (by decide) rfl ?_
  refine l_arg 3 h hS hl hi dL_law_472 dL_law_473 dL_law_474 dL_law_475 dL_law_476 (by decide) (by decide) rfl ?_
  refine z_Vi C0 hP hD hA hS (As := [.int (xs (i + 1)), .int (xs (i + 2)), .int (xs (i + 3))]) (rest := [.int r1]) (k := 92) (c_X12_tryHard l E G1 (G 93) n na (xs (i + 1)) (xs (i + 2)) (xs (i + 3)) (hF 93 (by omega)) hrn hrna hn10 hna) (cwV 3 hts (zgV (fun _ h => h) mlRL_52 imX12_tryHard seX12_tryHard iniRX12 coX12_tryHard) rfl rfl rfl (by decide +kernel) ⟨Nat.le_of_ble_eq_true rfl, Nat.le_of_ble_eq_true rfl⟩) (zk_lt (rfl : zk 92 = 10) (by decide)) (zd_10 E (rfl : zk 92 = 10) _) rfl rfl rfl hl.1 rfl (Nat.le_of_ble_eq_true rfl) dL_law_477 ⟨Nat.le_refl _, Nat.le_refl _⟩ (fun r2 G2 H locs hw2 hP hS => ?_)
  obtain ⟨e1, hG2⟩ := zLaw_u hG hw1 hw2 rfl (u_tryHard_k hw)
  exact lv_icmp_eq (tgt := 1325) hx hb dL_law_480 (by decide) (fun _ => kk G2 H locs hG2 hP hS) (fun q => absurd e1 q)
set_option maxHeartbeats 4000000 in
theorem l_case_9 (h : lH p s m meth c E b L xs) (hG : zLaw G) (hP : zP E G H) (hS : va_S (lA s) s.heap H locs) (hi : i + 6 ≤ L) (hl : lv_has ls 4 (lv4 i b E))
    (kk : ∀ (G2 : zG) (H2 : Heap) (locs2 : List Loc), zLaw G2 → zP E G2 H2 → va_S (lA s) s.heap H2 locs2 → W p l e room_1 s m #[Value.ref b] below meth c H2 locs2 600000 7302250 Q (F0 m 1325 ls [])) : W p l e room_1 s m #[Value.ref b] below meth c H locs 600000 7302250 Q (F0 m 485 ls []) := by
  obtain ⟨C0, hX, hbl, hD, hL⟩ := id h
  have hA : ∀ q, s.heap.size ≤ q → lA s q := fun q h => h
  have hx := C0.1
  have hb := C0.2.1
  have hts := C0.2.2.2.2.1
  obtain ⟨⟨n, na, hw, hR⟩, hp, h47, h02, him, ⟨K, hK96, k2, k3⟩, h44, ⟨mm, hm12, m2, m3⟩, h46⟩ := id hG
  obtain ⟨hrn, hrna, hn10, hna, hV⟩ := id hw
  have hkd := zKd_V hV.1
  refine lv_aload_n hx hb dL_law_485 rfl (lv_at hl 2 rfl) ?_
  refine l_arg 1 h hS hl hi dL_law_486 dL_law_487 dL_law_488 dL_law_489 dL_law_490 (by decide) (by decide) rfl ?_
  refine l_arg 2 h hS hl hi dL_law_491 dL_law_492 dL_law_493 dL_law_494 dL_law_495 (by decide) (by decide) rfl ?_
  refine l_arg 3 h hS hl hi dL_law_496 dL_law_497 dL_law_498 dL_law_499 dL_law_500 (by decide) (by decide) rfl ?_
  refine z_Vi C0 hP hD hA hS (As := [.int (xs (i + 1)), .int (xs (i + 2)), .int (xs (i + 3))]) (rest := []) (k := 0) (c_X11_by l E G (G 93) n na (xs (i + 1)) (xs (i + 2)) (xs (i + 3)) hR hn10 hna hp hkd) (cwV 3 hts (zgV (fun _ h => h) mlRL_53 imX11_by seX11_by iniRX11 coX11_by) rfl rfl rfl (by decide +kernel) ⟨Nat.le_of_ble_eq_true rfl, Nat.le_of_ble_eq_true rfl⟩) (zk_lt (rfl : zk 0 = 9) (by decide)) (zd_9 E (rfl : zk 0 = 9) _) rfl rfl rfl hl.1 rfl (Nat.le_of_ble_eq_true rfl) dL_law_501 ⟨Nat.le_refl _, Nat.le_refl _⟩ (fun r1 G1 H locs hw1 hP hS => ?_)
  have hF : ∀ k, 91 < k → G1 k = G k := fun k hk => hw1.2.1 k (by omega)
  refine lv_aload_n hx hb dL_law_504 rfl (lv_at hl 1 rfl) ?_
  refine l_arg 1 h hS hl hi dL_law_505 dL_law_506 dL_law_507 dL_law_508 dL_law_509 (by decide) (by decide) rfl ?_
  refine l_arg 2 h hS hl hi dL_law_510 dL_law_511 dL_law_512 dL_law_513 dL_law_514 (by decide) (by decide) rfl ?_
  refine l_arg 3 h hS hl hi dL_law_515 dL_law_516 dL_law_517 dL_law_518 dL_law_519 (by decide) (by decide) rfl ?_
  refine z_Vi C0 hP hD hA hS (As := [.int (xs (i + 1)), .int (xs (i + 2)), .int (xs (i + 3))]) (rest := [.int r1]) (k := 92) (c_X12_by l E G1 (G 93) n na (xs (i + 1)) (xs (i + 2)) (xs (i + 3)) (hF 93 (by omega)) hrn hrna hn10 hna) (cwV 3 hts (zgV (fun _ h => h) mlRL_56 imX12_by seX12_by iniRX12 coX12_by) rfl rfl rfl (by decide +kernel) ⟨Nat.le_of_ble_eq_true rfl, Nat.le_of_ble_eq_true rfl⟩) (zk_lt (rfl : zk 92 = 10) (by decide)) (zd_10 E (rfl : zk 92 = 10) _) rfl rfl rfl hl.1 rfl (Nat.le_of_ble_eq_true rfl) dL_law_520 ⟨Nat.le_refl _, Nat.le_refl _⟩ (fun r2 G2 H locs hw2 hP hS => ?_)
  obtain ⟨e1, hG2⟩ := zLaw_q hG hw1 hw2 rfl
  exact lv_icmp_eq (tgt := 1325) hx hb dL_law_523 (by decide) (fun _ => kk G2 H locs hG2 hP hS) (fun q => absurd e1 q)
set_option maxHeartbeats 4000000 in
theorem l_case_10 (h : lH p s m meth c E b L xs) (hG : zLaw G) (hP : zP E G H) (hS : va_S (lA s) s.heap H locs) (hi : i + 6 ≤ L) (hl : lv_has ls 4 (lv4 i b E))
    (kk : ∀ (G2 : zG) (H2 : Heap) (locs2 : List Loc), zLaw G2 → zP E G2 H2 → va_S (lA s) s.heap H2 locs2 → W p l e room_1 s m #[Value.ref b] below meth c H2 locs2 600000 7302250 Q (F0 m 1325 ls [])) : W p l e room_1 s m #[Value.ref b] below meth c H locs 600000 7302250 Q (F0 m 528 ls []) := by
  obtain ⟨C0, hX, hbl, hD, hL⟩ := id h
  have hA : ∀ q, s.heap.size ≤ q → lA s q := fun q h => h
  have hx := C0.1
  have hb := C0.2.1
  have hts := C0.2.2.2.2.1
  obtain ⟨⟨n, na, hw, hR⟩, hp, h47, h02, him, ⟨K, hK96, k2, k3⟩, h44, ⟨mm, hm12, m2, m3⟩, h46⟩ := id hG
  obtain ⟨hrn, hrna, hn10, hna, hV⟩ := id hw
  have hkd := zKd_V hV.1
  refine lv_aload_n hx hb dL_law_528 rfl (lv_at hl 2 rfl) ?_
  refine l_arg 1 h hS hl hi dL_law_529 dL_law_530 dL_law_531 dL_law_532 dL_law_533 (by decide) (by decide) rfl ?_
  refine l_arg 2 h hS hl hi dL_law_534 dL_law_535 dL_law_536 dL_law_537 dL_law_538 (by decide) (by decide) rfl ?_
  refine z_Vi C0 hP hD hA hS (As := [.int (xs (i + 1)), .int (xs (i + 2))]) (rest := []) (k := 0) (c_X11_finish l E G (G 93) n na (xs (i + 1)) (xs (i + 2)) hR hn10 hna hp hkd) (cwV 2 hts (zgV (fun _ h => h) mlRL_57 imX11_finish seX11_finish iniRX11 coX11_finish) rfl rfl rfl (by decide +kernel) ⟨Nat.le_of_ble_eq_true rfl, Nat.le_of_ble_eq_true rfl⟩) (zk_lt (rfl : zk 0 = 9) (by decide)) (zd_9 E (rfl : zk 0 = 9) _) rfl rfl rfl hl.1 rfl (Nat.le_of_ble_eq_true rfl) dL_law_539 ⟨Nat.le_refl _, Nat.le_refl _⟩ (fun r1 G1 H locs hw1 hP hS => ?_)
  have hF : ∀ k, 91 < k → G1 k = G k := fun k hk => hw1.2.1 k (by omega)
  refine lv_aload_n hx hb dL_law_542 rfl (lv_at hl 1 rfl) ?_
  refine l_arg 1 h hS hl hi dL_law_543 dL_law_544 dL_law_545 dL_law_546 dL_law_547 (by decide) (by decide) rfl ?_
  refine l_arg 2 h hS hl hi dL_law_548 dL_law_549 dL_law_550 dL_law_551 dL_law_552 (by decide) (by decide) rfl ?_
  refine z_Vi C0 hP hD hA hS (As := [.int (xs (i + 1)), .int (xs (i + 2))]) (rest := [.int r1]) (k := 92) (c_X12_finish l E G1 (G 93) n na (xs (i + 1)) (xs (i + 2)) (hF 93 (by omega)) hrn hrna hn10 hna) (cwV 2 hts (zgV (fun _ h => h) mlRL_60 imX12_finish seX12_finish iniRX12 coX12_finish) rfl rfl rfl (by decide +kernel) ⟨Nat.le_of_ble_eq_true rfl, Nat.le_of_ble_eq_true rfl⟩) (zk_lt (rfl : zk 92 = 10) (by decide)) (zd_10 E (rfl : zk 92 = 10) _) rfl rfl rfl hl.1 rfl (Nat.le_of_ble_eq_true rfl) dL_law_553 ⟨Nat.le_refl _, Nat.le_refl _⟩ (fun r2 G2 H locs hw2 hP hS => ?_)
  obtain ⟨e1, hG2⟩ := zLaw_q hG hw1 hw2 rfl
  exact lv_icmp_eq (tgt := 1325) hx hb dL_law_556 (by decide) (fun _ => kk G2 H locs hG2 hP hS) (fun q => absurd e1 q)
set_option maxHeartbeats 4000000 in
theorem l_case_11 (h : lH p s m meth c E b L xs) (hG : zLaw G) (hP : zP E G H) (hS : va_S (lA s) s.heap H locs) (hi : i + 6 ≤ L) (hl : lv_has ls 4 (lv4 i b E))
    (kk : ∀ (G2 : zG) (H2 : Heap) (locs2 : List Loc), zLaw G2 → zP E G2 H2 → va_S (lA s) s.heap H2 locs2 → W p l e room_1 s m #[Value.ref b] below meth c H2 locs2 600000 7302250 Q (F0 m 1325 ls [])) : W p l e room_1 s m #[Value.ref b] below meth c H locs 600000 7302250 Q (F0 m 561 ls []) := by
  obtain ⟨C0, hX, hbl, hD, hL⟩ := id h
  have hA : ∀ q, s.heap.size ≤ q → lA s q := fun q h => h
  have hx := C0.1
  have hb := C0.2.1
  have hts := C0.2.2.2.2.1
  obtain ⟨⟨n, na, hw, hR⟩, hp, h47, h02, him, ⟨K, hK96, k2, k3⟩, h44, ⟨mm, hm12, m2, m3⟩, h46⟩ := id hG
  obtain ⟨hrn, hrna, hn10, hna, hV⟩ := id hw
  have hkd := zKd_V hV.1
  refine lv_aload_n hx hb dL_law_561 rfl (lv_at hl 2 rfl) ?_
  refine l_arg 1 h hS hl hi dL_law_562 dL_law_563 dL_law_564 dL_law_565 dL_law_566 (by decide) (by decide) rfl ?_
  refine l_arg 2 h hS hl hi dL_law_567 dL_law_568 dL_law_569 dL_law_570 dL_law_571 (by decide) (by decide) rfl ?_
  refine z_Vi C0 hP hD hA hS (As := [.int (xs (i + 1)), .int (xs (i + 2))]) (rest := []) (k := 0) (c_X11_at l E G (G 93) n na (xs (i + 1)) (xs (i + 2)) hR hn10 hna hp hkd) (cwV 2 hts (zgV (fun _ h => h) mlRL_61 imX11_at seX11_at iniRX11 coX11_at) rfl rfl rfl (by decide +kernel) ⟨Nat.le_of_ble_eq_true rfl, Nat.le_of_ble_eq_true rfl⟩) (zk_lt (rfl : zk 0 = 9) (by decide)) (zd_9 E (rfl : zk 0 = 9) _) rfl rfl rfl hl.1 rfl (Nat.le_of_ble_eq_true rfl) dL_law_572 ⟨Nat.le_refl _, Nat.le_refl _⟩ (fun r1 G1 H locs hw1 hP hS => ?_)
  have hF : ∀ k, 91 < k → G1 k = G k := fun k hk => hw1.2.1 k (by omega)
  refine lv_aload_n hx hb dL_law_575 rfl (lv_at hl 1 rfl) ?_
  refine l_arg 1 h hS hl hi dL_law_576 dL_law_577 dL_law_578 dL_law_579 dL_law_580 (by decide) (by decide) rfl ?_
  refine l_arg 2 h hS hl hi dL_law_581 dL_law_582 dL_law_583 dL_law_584 dL_law_585 (by decide) (by decide) rfl ?_
  refine z_Vi C0 hP hD hA hS (As := [.int (xs (i + 1)), .int (xs (i + 2))]) (rest := [.int r1]) (k := 92) (c_X12_at l E G1 (G 93) n na (xs (i + 1)) (xs (i + 2)) (hF 93 (by omega)) hrn hrna hn10 hna) (cwV 2 hts (zgV (fun _ h => h) mlRL_64 imX12_at seX12_at iniRX12 coX12_at) rfl rfl rfl (by decide +kernel) ⟨Nat.le_of_ble_eq_true rfl, Nat.le_of_ble_eq_true rfl⟩) (zk_lt (rfl : zk 92 = 10) (by decide)) (zd_10 E (rfl : zk 92 = 10) _) rfl rfl rfl hl.1 rfl (Nat.le_of_ble_eq_true rfl) dL_law_586 ⟨Nat.le_refl _, Nat.le_refl _⟩ (fun r2 G2 H locs hw2 hP hS => ?_)
  obtain ⟨e1, hG2⟩ := zLaw_q hG hw1 hw2 rfl
  exact lv_icmp_eq (tgt := 1325) hx hb dL_law_589 (by decide) (fun _ => kk G2 H locs hG2 hP hS) (fun q => absurd e1 q)
end LAW
