section LAW
variable {p : Program} {l : Launch} {e : Env} {s : State} {m : MethodId} {below : List Frame} {meth : Method} {c : Code} {H : Heap} {locs : List Loc} {Q : State → Prop} {ls : Array Slot} {E : zE} {G : zG} {b L i : Nat} {xs : Nat → Int32}
set_option maxHeartbeats 4000000 in
theorem l_case_0 (h : lH p s m meth c E b L xs) (hG : zLaw G) (hP : zP E G H) (hS : va_S (lA s) s.heap H locs) (hi : i + 6 ≤ L) (hl : lv_has ls 4 (lv4 i b E))
    (kk : ∀ (G2 : zG) (H2 : Heap) (locs2 : List Loc), zLaw G2 → zP E G2 H2 → va_S (lA s) s.heap H2 locs2 → W p l e room_1 s m #[Value.ref b] below meth c H2 locs2 600000 7302250 Q (F0 m 1325 ls [])) : W p l e room_1 s m #[Value.ref b] below meth c H locs 600000 7302250 Q (F0 m 188 ls []) := by
  obtain ⟨C0, hX, hbl, hD, hL⟩ := id h
  have hA : ∀ q, s.heap.size ≤ q → lA s q := fun q h => h
  have hx := C0.1
  have hb := C0.2.1
  have hts := C0.2.2.2.2.1
  obtain ⟨⟨n, na, hw, hR⟩, hp, h47, h02, him, ⟨K, hK96, k2, k3⟩, h44, ⟨mm, hm12, m2, m3⟩, h46⟩ := id hG
  obtain ⟨hrn, hrna, hn10, hna, hV⟩ := id hw
  have hkd := zKd_V hV.1
  refine lv_aload_n hx hb dL_law_188 rfl (lv_at hl 2 rfl) ?_
  refine l_arg 1 h hS hl hi dL_law_189 dL_law_190 dL_law_191 dL_law_192 dL_law_193 (by decide) (by decide) rfl ?_
  refine z_Vi C0 hP hD hA hS (As := [.int (xs (i + 1))]) (rest := []) (k := 0) (c_X11_letter l E G (G 44) K rfl k2 hK96 (xs (i + 1)) hp) (cwV 1 hts (zgV (fun _ h => h) mlRL_13 imX11_letter seX11_letter iniRX11 coX11_letter) rfl rfl rfl (by decide +kernel) ⟨Nat.le_of_ble_eq_true rfl, Nat.le_of_ble_eq_true rfl⟩) (zk_lt (rfl : zk 0 = 9) (by decide)) (zd_9 E (rfl : zk 0 = 9) _) rfl rfl rfl hl.1 rfl (Nat.le_of_ble_eq_true rfl) dL_law_194 ⟨Nat.le_refl _, Nat.le_refl _⟩ (fun r1 G1 H locs hw1 hP hS => ?_)
  have hF : ∀ k, 91 < k → G1 k = G k := fun k hk => hw1.2.1 k (by omega)
  refine lv_aload_n hx hb dL_law_197 rfl (lv_at hl 1 rfl) ?_
  refine l_arg 1 h hS hl hi dL_law_198 dL_law_199 dL_law_200 dL_law_201 dL_law_202 (by decide) (by decide) rfl ?_
  refine z_Vi C0 hP hD hA hS (As := [.int (xs (i + 1))]) (rest := [.int r1]) (k := 92) (c_X12_letter l E G1 (G 44) K (xs (i + 1)) ((hF 97 (by omega)).trans h44.symm) ((congrFun (hF 92 (by omega)) 8).trans k3) hK96) (cwV 1 hts (zgV (fun _ h => h) mlRL_17 imX12_letter seX12_letter iniRX12 coX12_letter) rfl rfl rfl (by decide +kernel) ⟨Nat.le_of_ble_eq_true rfl, Nat.le_of_ble_eq_true rfl⟩) (zk_lt (rfl : zk 92 = 10) (by decide)) (zd_10 E (rfl : zk 92 = 10) _) rfl rfl rfl hl.1 rfl (Nat.le_of_ble_eq_true rfl) dL_law_203 ⟨Nat.le_refl _, Nat.le_refl _⟩ (fun r2 G2 H locs hw2 hP hS => ?_)
  obtain ⟨e1, hG2⟩ := zLaw_t hG hw1 hw2 rfl (R_letter_k hK96)
  exact lv_icmp_eq (tgt := 1325) hx hb dL_law_206 (by decide) (fun _ => kk G2 H locs hG2 hP hS) (fun q => absurd e1 q)
set_option maxHeartbeats 4000000 in
theorem l_case_1 (h : lH p s m meth c E b L xs) (hG : zLaw G) (hP : zP E G H) (hS : va_S (lA s) s.heap H locs) (hi : i + 6 ≤ L) (hl : lv_has ls 4 (lv4 i b E))
    (kk : ∀ (G2 : zG) (H2 : Heap) (locs2 : List Loc), zLaw G2 → zP E G2 H2 → va_S (lA s) s.heap H2 locs2 → W p l e room_1 s m #[Value.ref b] below meth c H2 locs2 600000 7302250 Q (F0 m 1325 ls [])) : W p l e room_1 s m #[Value.ref b] below meth c H locs 600000 7302250 Q (F0 m 211 ls []) := by
  obtain ⟨C0, hX, hbl, hD, hL⟩ := id h
  have hA : ∀ q, s.heap.size ≤ q → lA s q := fun q h => h
  have hx := C0.1
  have hb := C0.2.1
  have hts := C0.2.2.2.2.1
  obtain ⟨⟨n, na, hw, hR⟩, hp, h47, h02, him, ⟨K, hK96, k2, k3⟩, h44, ⟨mm, hm12, m2, m3⟩, h46⟩ := id hG
  obtain ⟨hrn, hrna, hn10, hna, hV⟩ := id hw
  have hkd := zKd_V hV.1
  refine lv_aload_n hx hb dL_law_211 rfl (lv_at hl 2 rfl) ?_
  refine z_Vi C0 hP hD hA hS (As := []) (rest := []) (k := 0) (c_X11_race l E G (G 44) K rfl k2 hK96 (G 93) n na hR hn10 hna) (cwV 0 hts (zgV (fun _ h => h) mlRL_18 imX11_race seX11_race iniRX11 coX11_race) rfl rfl rfl (by decide +kernel) ⟨Nat.le_of_ble_eq_true rfl, Nat.le_of_ble_eq_true rfl⟩) (zk_lt (rfl : zk 0 = 9) (by decide)) (zd_9 E (rfl : zk 0 = 9) _) rfl rfl rfl hl.1 rfl (Nat.le_of_ble_eq_true rfl) dL_law_212 ⟨Nat.le_refl _, Nat.le_refl _⟩ (fun r1 G1 H locs hw1 hP hS => ?_)
  have hF : ∀ k, 91 < k → G1 k = G k := by
    obtain ⟨_, _, _, _, _, f, _⟩ := hw1
    exact fun k hk => f k (by omega)
  refine lv_aload_n hx hb dL_law_215 rfl (lv_at hl 1 rfl) ?_
  obtain ⟨m0, hm0⟩ := nI_ex (G1 92 15)
  refine z_Vi C0 hP hD hA hS (As := []) (rest := [.int r1]) (k := 92) (c_X12_race l E G1 (G 44) K m0 ((hF 97 (by omega)).trans h44.symm) ((congrFun (hF 92 (by omega)) 8).trans k3) hm0 hK96 (G 93) n na (hF 93 (by omega)) hw) (cwV 0 hts (zgV (fun _ h => h) mlRL_22 imX12_race seX12_race iniRX12 coX12_race) rfl rfl rfl (by decide +kernel) ⟨Nat.le_of_ble_eq_true rfl, Nat.le_of_ble_eq_true rfl⟩) (zk_lt (rfl : zk 92 = 10) (by decide)) (zd_10 E (rfl : zk 92 = 10) _) rfl rfl rfl hl.1 rfl (Nat.le_of_ble_eq_true rfl) dL_law_216 ⟨Nat.le_refl _, Nat.le_refl _⟩ (fun r2 G2 H locs hw2 hP hS => ?_)
  obtain ⟨e1, hG2⟩ := zLaw_x hG hK96 hw hw1 hw2
  exact lv_icmp_eq (tgt := 1325) hx hb dL_law_219 (by decide) (fun _ => kk G2 H locs hG2 hP hS) (fun q => absurd e1 q)
set_option maxHeartbeats 4000000 in
theorem l_case_2 (h : lH p s m meth c E b L xs) (hG : zLaw G) (hP : zP E G H) (hS : va_S (lA s) s.heap H locs) (hi : i + 6 ≤ L) (hl : lv_has ls 4 (lv4 i b E))
    (kk : ∀ (G2 : zG) (H2 : Heap) (locs2 : List Loc), zLaw G2 → zP E G2 H2 → va_S (lA s) s.heap H2 locs2 → W p l e room_1 s m #[Value.ref b] below meth c H2 locs2 600000 7302250 Q (F0 m 1325 ls [])) : W p l e room_1 s m #[Value.ref b] below meth c H locs 600000 7302250 Q (F0 m 224 ls []) := by
  obtain ⟨C0, hX, hbl, hD, hL⟩ := id h
  have hA : ∀ q, s.heap.size ≤ q → lA s q := fun q h => h
  have hx := C0.1
  have hb := C0.2.1
  have hts := C0.2.2.2.2.1
  obtain ⟨⟨n, na, hw, hR⟩, hp, h47, h02, him, ⟨K, hK96, k2, k3⟩, h44, ⟨mm, hm12, m2, m3⟩, h46⟩ := id hG
  obtain ⟨hrn, hrna, hn10, hna, hV⟩ := id hw
  have hkd := zKd_V hV.1
  refine lv_aload_n hx hb dL_law_224 rfl (lv_at hl 2 rfl) ?_
  refine l_arg 1 h hS hl hi dL_law_225 dL_law_226 dL_law_227 dL_law_228 dL_law_229 (by decide) (by decide) rfl ?_
  refine l_arg 2 h hS hl hi dL_law_230 dL_law_231 dL_law_232 dL_law_233 dL_law_234 (by decide) (by decide) rfl ?_
  refine z_Vi C0 hP hD hA hS (As := [.int (xs (i + 1)), .int (xs (i + 2))]) (rest := []) (k := 0) (c_X11_section l E G (G 93) n na (xs (i + 1)) (xs (i + 2)) hR hn10 hna hp) (cwV 2 hts (zgV (fun _ h => h) mlRL_23 imX11_section seX11_section iniRX11 coX11_section) rfl rfl rfl (by decide +kernel) ⟨Nat.le_of_ble_eq_true rfl, Nat.le_of_ble_eq_true rfl⟩) (zk_lt (rfl : zk 0 = 9) (by decide)) (zd_9 E (rfl : zk 0 = 9) _) rfl rfl rfl hl.1 rfl (Nat.le_of_ble_eq_true rfl) dL_law_235 ⟨Nat.le_refl _, Nat.le_refl _⟩ (fun r1 G1 H locs hw1 hP hS => ?_)
  have hF : ∀ k, 91 < k → G1 k = G k := fun k hk => hw1.2.1 k (by omega)
  refine lv_aload_n hx hb dL_law_238 rfl (lv_at hl 1 rfl) ?_
  refine l_arg 1 h hS hl hi dL_law_239 dL_law_240 dL_law_241 dL_law_242 dL_law_243 (by decide) (by decide) rfl ?_
  refine l_arg 2 h hS hl hi dL_law_244 dL_law_245 dL_law_246 dL_law_247 dL_law_248 (by decide) (by decide) rfl ?_
  refine z_Vi C0 hP hD hA hS (As := [.int (xs (i + 1)), .int (xs (i + 2))]) (rest := [.int r1]) (k := 92) (c_X12_section l E G1 (G 93) n na (xs (i + 1)) (xs (i + 2)) (hF 93 (by omega)) hrn hrna hn10 hna hkd) (cwV 2 hts (zgV (fun _ h => h) mlRL_27 imX12_section seX12_section iniRX12 coX12_section) rfl rfl rfl (by decide +kernel) ⟨Nat.le_of_ble_eq_true rfl, Nat.le_of_ble_eq_true rfl⟩) (zk_lt (rfl : zk 92 = 10) (by decide)) (zd_10 E (rfl : zk 92 = 10) _) rfl rfl rfl hl.1 rfl (Nat.le_of_ble_eq_true rfl) dL_law_249 ⟨Nat.le_refl _, Nat.le_refl _⟩ (fun r2 G2 H locs hw2 hP hS => ?_)
  obtain ⟨e1, hG2⟩ := zLaw_q hG hw1 hw2 rfl
  exact lv_icmp_eq (tgt := 1325) hx hb dL_law_252 (by decide) (fun _ => kk G2 H locs hG2 hP hS) (fun q => absurd e1 q)
end LAW
