section LAW
variable {p : Program} {l : Launch} {e : Env} {s : State} {m : MethodId} {below : List Frame} {meth : Method} {c : Code} {H : Heap} {locs : List Loc} {Q : State → Prop} {ls : Array Slot} {E : zE} {G : zG} {b L i : Nat} {xs : Nat → Int32}
set_option maxHeartbeats 4000000 in
theorem l_case_24 (h : lH p s m meth c E b L xs) (hG : zLaw G) (hP : zP E G H) (hS : va_S (lA s) s.heap H locs) (hi : i + 6 ≤ L) (hl : lv_has ls 4 (lv4 i b E))
    (kk : ∀ (G2 : zG) (H2 : Heap) (locs2 : List Loc), zLaw G2 → zP E G2 H2 → va_S (lA s) s.heap H2 locs2 → W p l e room_1 s m #[Value.ref b] below meth c H2 locs2 600000 7302250 Q (F0 m 1325 ls [])) : W p l e room_1 s m #[Value.ref b] below meth c H locs 600000 7302250 Q (F0 m 1022 ls []) := by
  obtain ⟨C0, hX, hbl, hD, hL⟩ := id h
  have hA : ∀ q, s.heap.size ≤ q → lA s q := fun q h => h
  have hx := C0.1
  have hb := C0.2.1
  have hts := C0.2.2.2.2.1
  obtain ⟨⟨n, na, hw, hR⟩, hp, h47, h02, him, ⟨K, hK96, k2, k3⟩, h44, ⟨mm, hm12, m2, m3⟩, h46⟩ := id hG
  obtain ⟨hrn, hrna, hn10, hna, hV⟩ := id hw
  have hkd := zKd_V hV.1
  refine lv_aload_n hx hb dL_law_1022 rfl (lv_at hl 2 rfl) ?_
  refine l_arg 1 h hS hl hi dL_law_1023 dL_law_1024 dL_law_1025 dL_law_1026 dL_law_1027 (by decide) (by decide) rfl ?_
  refine l_arg 2 h hS hl hi dL_law_1028 dL_law_1029 dL_law_1030 dL_law_1031 dL_law_1032 (by decide) (by decide) rfl ?_
  refine l_arg 3 h hS hl hi dL_law_1033 dL_law_1034 dL_law_1035 dL_law_1036 dL_law_1037 (by decide) (by decide) rfl ?_
  refine z_Vi C0 hP hD hA hS (As := [.int (xs (i + 1)), .int (xs (i + 2)), .int (xs (i + 3))]) (rest := []) (k := 0) (c_X11_tube l E G (G 93) n na (xs (i + 1)) (xs (i + 2)) (xs (i + 3)) hR hn10 hna hp) (cwV 3 hts (zgV (fun _ h => h) mlRL_115 imX11_tube seX11_tube iniRX11 coX11_tube) rfl rfl rfl (by decide +kernel) ⟨Nat.le_of_ble_eq_true rfl, Nat.le_of_ble_eq_true rfl⟩) (zk_lt (rfl : zk 0 = 9) (by decide)) (zd_9 E (rfl : zk 0 = 9) _) rfl rfl rfl hl.1 rfl (Nat.le_of_ble_eq_true rfl) dL_law_1038 ⟨Nat.le_refl _, Nat.le_refl _⟩ (fun r1 G1 H locs hw1 hP hS => ?_)
  have hF : ∀ k, 91 < k → G1 k = G k := fun k hk => hw1.2.1 k (by omega)
  refine lv_aload_n hx hb dL_law_1041 rfl (lv_at hl 1 rfl) ?_
  refine l_arg 1 h hS hl hi dL_law_1042 dL_law_1043 dL_law_1044 dL_law_1045 dL_law_1046 (by decide) (by decide) rfl ?_
  refine l_arg 2 h hS hl hi dL_law_1047 dL_law_1048 dL_law_1049 dL_law_1050 dL_law_1051 (by decide) (by decide) rfl ?_
  refine l_arg 3 h hS hl hi dL_law_1052 dL_law_1053 dL_law_1054 dL_law_1055 dL_law_1056 (by decide) (by decide) rfl ?_
  refine z_Vi C0 hP hD hA hS (As := [.int (xs (i + 1)), .int (xs (i + 2)), .int (xs (i + 3))]) (rest := [.int r1]) (k := 92) (c_X12_tube l E G1 (G 93) n na (xs (i + 1)) (xs (i + 2)) (xs (i + 3)) (hF 93 (by omega)) hrn hrna hn10 hna) (cwV 3 hts (zgV (fun _ h => h) mlRL_118 imX12_tube seX12_tube iniRX12 coX12_tube) rfl rfl rfl (by decide +kernel) ⟨Nat.le_of_ble_eq_true rfl, Nat.le_of_ble_eq_true rfl⟩) (zk_lt (rfl : zk 92 = 10) (by decide)) (zd_10 E (rfl : zk 92 = 10) _) rfl rfl rfl hl.1 rfl (Nat.le_of_ble_eq_true rfl) dL_law_1057 ⟨Nat.le_refl _, Nat.le_refl _⟩ (fun r2 G2 H locs hw2 hP hS => ?_)
  obtain ⟨e1, hG2⟩ := zLaw_q hG hw1 hw2 rfl
  exact lv_icmp_eq (tgt := 1325) hx hb dL_law_1060 (by decide) (fun _ => kk G2 H locs hG2 hP hS) (fun q => absurd e1 q)
set_option maxHeartbeats 4000000 in
theorem l_case_25 (h : lH p s m meth c E b L xs) (hG : zLaw G) (hP : zP E G H) (hS : va_S (lA s) s.heap H locs) (hi : i + 6 ≤ L) (hl : lv_has ls 4 (lv4 i b E))
    (kk : ∀ (G2 : zG) (H2 : Heap) (locs2 : List Loc), zLaw G2 → zP E G2 H2 → va_S (lA s) s.heap H2 locs2 → W p l e room_1 s m #[Value.ref b] below meth c H2 locs2 600000 7302250 Q (F0 m 1325 ls [])) : W p l e room_1 s m #[Value.ref b] below meth c H locs 600000 7302250 Q (F0 m 1065 ls []) := by
  obtain ⟨C0, hX, hbl, hD, hL⟩ := id h
  have hA : ∀ q, s.heap.size ≤ q → lA s q := fun q h => h
  have hx := C0.1
  have hb := C0.2.1
  have hts := C0.2.2.2.2.1
  obtain ⟨⟨n, na, hw, hR⟩, hp, h47, h02, him, ⟨K, hK96, k2, k3⟩, h44, ⟨mm, hm12, m2, m3⟩, h46⟩ := id hG
  obtain ⟨hrn, hrna, hn10, hna, hV⟩ := id hw
  have hkd := zKd_V hV.1
  refine lv_aload_n hx hb dL_law_1065 rfl (lv_at hl 2 rfl) ?_
  refine l_arg 1 h hS hl hi dL_law_1066 dL_law_1067 dL_law_1068 dL_law_1069 dL_law_1070 (by decide) (by decide) rfl ?_
  refine l_arg 2 h hS hl hi dL_law_1071 dL_law_1072 dL_law_1073 dL_law_1074 dL_law_1075 (by decide) (by decide) rfl ?_
  refine z_Vi C0 hP hD hA hS (As := [.int (xs (i + 1)), .int (xs (i + 2))]) (rest := []) (k := 0) (c_X11_draw l E G (G 93) n na (xs (i + 1)) (xs (i + 2)) hR hn10 hna hp hkd hV) (cwV 2 hts (zgV (fun _ h => h) mlRL_119 imX11_draw seX11_draw iniRX11 coX11_draw) rfl rfl rfl (by decide +kernel) ⟨Nat.le_of_ble_eq_true rfl, Nat.le_of_ble_eq_true rfl⟩) (zk_lt (rfl : zk 0 = 9) (by decide)) (zd_9 E (rfl : zk 0 = 9) _) rfl rfl rfl hl.1 rfl (Nat.le_of_ble_eq_true rfl) dL_law_1076 ⟨Nat.le_refl _, Nat.le_refl _⟩ (fun r1 G1 H locs hw1 hP hS => ?_)
  have hF : ∀ k, 91 < k → G1 k = G k := fun k hk => hw1.2.1 k (by omega)
  refine lv_aload_n hx hb dL_law_1079 rfl (lv_at hl 1 rfl) ?_
  refine l_arg 1 h hS hl hi dL_law_1080 dL_law_1081 dL_law_1082 dL_law_1083 dL_law_1084 (by decide) (by decide) rfl ?_
  refine l_arg 2 h hS hl hi dL_law_1085 dL_law_1086 dL_law_1087 dL_law_1088 dL_law_1089 (by decide) (by decide) rfl ?_
  refine z_Vi C0 hP hD hA hS (As := [.int (xs (i + 1)), .int (xs (i + 2))]) (rest := [.int r1]) (k := 92) (c_X12_draw l E G1 (G 93) n na (xs (i + 1)) (xs (i + 2)) (hF 93 (by omega)) hrn hrna hn10 hna hkd hV) (cwV 2 hts (zgV (fun _ h => h) mlRL_122 imX12_draw seX12_draw iniRX12 coX12_draw) rfl rfl rfl (by decide +kernel) ⟨Nat.le_of_ble_eq_true rfl, Nat.le_of_ble_eq_true rfl⟩) (zk_lt (rfl : zk 92 = 10) (by decide)) (zd_10 E (rfl : zk 92 = 10) _) rfl rfl rfl hl.1 rfl (Nat.le_of_ble_eq_true rfl) dL_law_1090 ⟨Nat.le_refl _, Nat.le_refl _⟩ (fun r2 G2 H locs hw2 hP hS => ?_)
  obtain ⟨e1, hG2⟩ := zLaw_q hG hw1 hw2 rfl
  exact lv_icmp_eq (tgt := 1325) hx hb dL_law_1093 (by decide) (fun _ => kk G2 H locs hG2 hP hS) (fun q => absurd e1 q)
set_option maxHeartbeats 4000000 in
theorem l_case_26 (h : lH p s m meth c E b L xs) (hG : zLaw G) (hP : zP E G H) (hS : va_S (lA s) s.heap H locs) (hi : i + 6 ≤ L) (hl : lv_has ls 4 (lv4 i b E))
    (kk : ∀ (G2 : zG) (H2 : Heap) (locs2 : List Loc), zLaw G2 → zP E G2 H2 → va_S (lA s) s.heap H2 locs2 → W p l e room_1 s m #[Value.ref b] below meth c H2 locs2 600000 7302250 Q (F0 m 1325 ls [])) : W p l e room_1 s m #[Value.ref b] below meth c H locs 600000 7302250 Q (F0 m 1098 ls []) := by
  obtain ⟨C0, hX, hbl, hD, hL⟩ := id h
  have hA : ∀ q, s.heap.size ≤ q → lA s q := fun q h => h
  have hx := C0.1
  have hb := C0.2.1
  have hts := C0.2.2.2.2.1
  obtain ⟨⟨n, na, hw, hR⟩, hp, h47, h02, him, ⟨K, hK96, k2, k3⟩, h44, ⟨mm, hm12, m2, m3⟩, h46⟩ := id hG
  obtain ⟨hrn, hrna, hn10, hna, hV⟩ := id hw
  have hkd := zKd_V hV.1
  refine lv_aload_n hx hb dL_law_1098 rfl (lv_at hl 2 rfl) ?_
  refine l_arg 1 h hS hl hi dL_law_1099 dL_law_1100 dL_law_1101 dL_law_1102 dL_law_1103 (by decide) (by decide) rfl ?_
  refine l_arg 2 h hS hl hi dL_law_1104 dL_law_1105 dL_law_1106 dL_law_1107 dL_law_1108 (by decide) (by decide) rfl ?_
  refine l_arg 3 h hS hl hi dL_law_1109 dL_law_1110 dL_law_1111 dL_law_1112 dL_law_1113 (by decide) (by decide) rfl ?_
  refine z_Vi C0 hP hD hA hS (As := [.int (xs (i + 1)), .int (xs (i + 2)), .int (xs (i + 3))]) (rest := []) (k := 0) (c_X11_two l E G (G 93) n na (xs (i + 1)) (xs (i + 2)) (xs (i + 3)) hR hn10 hna hp hkd) (cwV 3 hts (zgV (fun _ h => h) mlRL_123 imX11_two seX11_two iniRX11 coX11_two) rfl rfl rfl (by decide +kernel) ⟨Nat.le_of_ble_eq_true rfl, Nat.le_of_ble_eq_true rfl⟩) (zk_lt (rfl : zk 0 = 9) (by decide)) (zd_9 E (rfl : zk 0 = 9) _) rfl rfl rfl hl.1 rfl (Nat.le_of_ble_eq_true rfl) dL_law_1114 ⟨Nat.le_refl _, Nat.le_refl _⟩ (fun r1 G1 H locs hw1 hP hS => ?_)
  have hF : ∀ k, 91 < k → G1 k = G k := fun k hk => hw1.2.1 k (by omega)
  refine lv_aload_n hx hb dL_law_1117 rfl (lv_at hl 1 rfl) ?_
  refine l_arg 1 h hS hl hi dL_law_1118 dL_law_1119 dL_law_1120 dL_law_1121 dL_law_1122 (by decide) (by decide) rfl ?_
  refine l_arg 2 h hS hl hi dL_law_1123 dL_law_1124 dL_law_1125 dL_law_1126 dL_law_1127 (by decide) (by decide) rfl ?_
  refine l_arg 3 h hS hl hi dL_law_1128 dL_law_1129 dL_law_1130 dL_law_1131 dL_law_1132 (by decide) (by decide) rfl ?_
  refine z_Vi C0 hP hD hA hS (As := [.int (xs (i + 1)), .int (xs (i + 2)), .int (xs (i + 3))]) (rest := [.int r1]) (k := 92) (c_X12_two l E G1 (G 93) n na (xs (i + 1)) (xs (i + 2)) (xs (i + 3)) (hF 93 (by omega)) hrn hrna hn10 hna) (cwV 3 hts (zgV (fun _ h => h) mlRL_126 imX12_two seX12_two iniRX12 coX12_two) rfl rfl rfl (by decide +kernel) ⟨Nat.le_of_ble_eq_true rfl, Nat.le_of_ble_eq_true rfl⟩) (zk_lt (rfl : zk 92 = 10) (by decide)) (zd_10 E (rfl : zk 92 = 10) _) rfl rfl rfl hl.1 rfl (Nat.le_of_ble_eq_true rfl) dL_law_1133 ⟨Nat.le_refl _, Nat.le_refl _⟩ (fun r2 G2 H locs hw2 hP hS => ?_)
  obtain ⟨e1, hG2⟩ := zLaw_q hG hw1 hw2 rfl
  exact lv_icmp_eq (tgt := 1325) hx hb dL_law_1136 (by decide) (fun _ => kk G2 H locs hG2 hP hS) (fun q => absurd e1 q)
set_option maxHeartbeats 4000000 in
theorem l_case_27 (h : lH p s m meth c E b L xs) (hG : zLaw G) (hP : zP E G H) (hS : va_S (lA s) s.heap H locs) (hi : i + 6 ≤ L) (hl : lv_has ls 4 (lv4 i b E))
    (kk : ∀ (G2 : zG) (H2 : Heap) (locs2 : List Loc), zLaw G2 → zP E G2 H2 → va_S (lA s) s.heap H2 locs2 → W p l e room_1 s m #[Value.ref b] below meth c H2 locs2 600000 7302250 Q (F0 m 1325 ls [])) : W p l e room_1 s m #[Value.ref b] below meth c H locs 600000 7302250 Q (F0 m 1141 ls []) := by
  obtain ⟨C0, hX, hbl, hD, hL⟩ := id h
  have hA : ∀ q, s.heap.size ≤ q → lA s q := fun q h => h
  have hx := C0.1
  have hb := C0.2.1
  have hts := C0.2.2.2.2.1
  obtain ⟨⟨n, na, hw, hR⟩, hp, h47, h02, him, ⟨K, hK96, k2, k3⟩, h44, ⟨mm, hm12, m2, m3⟩, h46⟩ := id hG
  obtain ⟨hrn, hrna, hn10, hna, hV⟩ := id hw
  have hkd := zKd_V hV.1
  refine lv_aload_n hx hb dL_law_1141 rfl (lv_at hl 2 rfl) ?_
  refine l_arg 1 h hS hl hi dL_law_1142 dL_law_1143 dL_law_1144 dL_law_1145 dL_law_1146 (by decide) (by decide) rfl ?_
  refine l_arg 2 h hS hl hi dL_law_1147 dL_law_1148 dL_law_1149 dL_law_1150 dL_law_1151 (by decide) (by decide) rfl ?_
  refine z_Vi C0 hP hD hA hS (As := [.int (xs (i + 1)), .int (xs (i + 2))]) (rest := []) (k := 0) (c_X11_whatWas l E G (G 93) n na (xs (i + 1)) (xs (i + 2)) hR hn10 hna hp hkd) (cwV 2 hts (zgV (fun _ h => h) mlRL_127 imX11_whatWas seX11_whatWas iniRX11 coX11_whatWas) rfl rfl rfl (by decide +kernel) ⟨Nat.le_of_ble_eq_true rfl, Nat.le_of_ble_eq_true rfl⟩) (zk_lt (rfl : zk 0 = 9) (by decide)) (zd_9 E (rfl : zk 0 = 9) _) rfl rfl rfl hl.1 rfl (Nat.le_of_ble_eq_true rfl) dL_law_1152 ⟨Nat.le_refl _, Nat.le_refl _⟩ (fun r1 G1 H locs hw1 hP hS => ?_)
  have hF : ∀ k, 91 < k → G1 k = G k := fun k hk => hw1.2.1 k (by omega)
  refine lv_aload_n hx hb dL_law_1155 rfl (lv_at hl 1 rfl) ?_
  refine l_arg 1 h hS hl hi dL_law_1156 dL_law_1157 dL_law_1158 dL_law_1159 dL_law_1160 (by decide) (by decide) rfl ?_
  refine l_arg 2 h hS hl hi dL_law_1161 dL_law_1162 dL_law_1163 dL_law_1164 dL_law_1165 (by decide) (by decide) rfl ?_
  refine z_Vi C0 hP hD hA hS (As := [.int (xs (i + 1)), .int (xs (i + 2))]) (rest := [.int r1]) (k := 92) (c_X12_whatWas l E G1 (G 93) n na (xs (i + 1)) (xs (i + 2)) (hF 93 (by omega)) hrn hrna hn10 hna) (cwV 2 hts (zgV (fun _ h => h) mlRL_130 imX12_whatWas seX12_whatWas iniRX12 coX12_whatWas) rfl rfl rfl (by decide +kernel) ⟨Nat.le_of_ble_eq_true rfl, Nat.le_of_ble_eq_true rfl⟩) (zk_lt (rfl : zk 92 = 10) (by decide)) (zd_10 E (rfl : zk 92 = 10) _) rfl rfl rfl hl.1 rfl (Nat.le_of_ble_eq_true rfl) dL_law_1166 ⟨Nat.le_refl _, Nat.le_refl _⟩ (fun r2 G2 H locs hw2 hP hS => ?_)
  obtain ⟨e1, hG2⟩ := zLaw_q hG hw1 hw2 (by rw [show G1 98 = G 46 from (hF 98 (by omega)).trans h46.symm, show G1 92 9 = G 45 0 from (congrFun (hF 92 (by omega)) 9).trans (m3.trans m2.symm)])
  exact lv_icmp_eq (tgt := 1325) hx hb dL_law_1169 (by decide) (fun _ => kk G2 H locs hG2 hP hS) (fun q => absurd e1 q)
set_option maxHeartbeats 4000000 in
theorem l_case_28 (h : lH p s m meth c E b L xs) (hG : zLaw G) (hP : zP E G H) (hS : va_S (lA s) s.heap H locs) (hi : i + 6 ≤ L) (hl : lv_has ls 4 (lv4 i b E))
    (kk : ∀ (G2 : zG) (H2 : Heap) (locs2 : List Loc), zLaw G2 → zP E G2 H2 → va_S (lA s) s.heap H2 locs2 → W p l e room_1 s m #[Value.ref b] below meth c H2 locs2 600000 7302250 Q (F0 m 1325 ls [])) : W p l e room_1 s m #[Value.ref b] below meth c H locs 600000 7302250 Q (F0 m 1174 ls []) := by
  obtain ⟨C0, hX, hbl, hD, hL⟩ := id h
  have hA : ∀ q, s.heap.size ≤ q → lA s q := fun q h => h
  have hx := C0.1
  have hb := C0.2.1
  have hts := C0.2.2.2.2.1
  obtain ⟨⟨n, na, hw, hR⟩, hp, h47, h02, him, ⟨K, hK96, k2, k3⟩, h44, ⟨mm, hm12, m2, m3⟩, h46⟩ := id hG
  obtain ⟨hrn, hrna, hn10, hna, hV⟩ := id hw
  have hkd := zKd_V hV.1
  refine lv_aload_n hx hb dL_law_1174 rfl (lv_at hl 2 rfl) ?_
  refine l_arg 1 h hS hl hi dL_law_1175 dL_law_1176 dL_law_1177 dL_law_1178 dL_law_1179 (by decide) (by decide) rfl ?_
  refine z_Vi C0 hP hD hA hS (As := [.int (xs (i + 1))]) (rest := []) (k := 0) (c_X11_row l E G (xs (i + 1)) mm m2 hm12 hp) (cwV 1 hts (zgV (fun _ h => h) mlRL_131 imX11_row seX11_row iniRX11 coX11_row) rfl rfl rfl (by decide +kernel) ⟨Nat.le_of_ble_eq_true rfl, Nat.le_of_ble_eq_true rfl⟩) (zk_lt (rfl : zk 0 = 9) (by decide)) (zd_9 E (rfl : zk 0 = 9) _) rfl rfl rfl hl.1 rfl (Nat.le_of_ble_eq_true rfl) dL_law_1180 ⟨Nat.le_refl _, Nat.le_refl _⟩ (fun r1 G1 H locs hw1 hP hS => ?_)
  have hF : ∀ k, 91 < k → G1 k = G k := fun k hk => hw1.2.1 k (by omega)
  refine lv_aload_n hx hb dL_law_1183 rfl (lv_at hl 1 rfl) ?_
  refine l_arg 1 h hS hl hi dL_law_1184 dL_law_1185 dL_law_1186 dL_law_1187 dL_law_1188 (by decide) (by decide) rfl ?_
  refine z_Vi C0 hP hD hA hS (As := [.int (xs (i + 1))]) (rest := [.int r1]) (k := 92) (c_X12_row l E G1 (xs (i + 1)) mm ((congrFun (hF 92 (by omega)) 9).trans m3) hm12) (cwV 1 hts (zgV (fun _ h => h) mlRL_134 imX12_row seX12_row iniRX12 coX12_row) rfl rfl rfl (by decide +kernel) ⟨Nat.le_of_ble_eq_true rfl, Nat.le_of_ble_eq_true rfl⟩) (zk_lt (rfl : zk 92 = 10) (by decide)) (zd_10 E (rfl : zk 92 = 10) _) rfl rfl rfl hl.1 rfl (Nat.le_of_ble_eq_true rfl) dL_law_1189 ⟨Nat.le_refl _, Nat.le_refl _⟩ (fun r2 G2 H locs hw2 hP hS => ?_)
  obtain ⟨e1, hG2⟩ := zLaw_r hG hw1 hw2 (by rw [show G1 98 = G 46 from (hF 98 (by omega)).trans h46.symm]) (R_row_k hm12)
  exact lv_icmp_eq (tgt := 1325) hx hb dL_law_1192 (by decide) (fun _ => kk G2 H locs hG2 hP hS) (fun q => absurd e1 q)
set_option maxHeartbeats 4000000 in
theorem l_case_29 (h : lH p s m meth c E b L xs) (hG : zLaw G) (hP : zP E G H) (hS : va_S (lA s) s.heap H locs) (hi : i + 6 ≤ L) (hl : lv_has ls 4 (lv4 i b E))
    (kk : ∀ (G2 : zG) (H2 : Heap) (locs2 : List Loc), zLaw G2 → zP E G2 H2 → va_S (lA s) s.heap H2 locs2 → W p l e room_1 s m #[Value.ref b] below meth c H2 locs2 600000 7302250 Q (F0 m 1325 ls [])) : W p l e room_1 s m #[Value.ref b] below meth c H locs 600000 7302250 Q (F0 m 1197 ls []) := by
  obtain ⟨C0, hX, hbl, hD, hL⟩ := id h
  have hA : ∀ q, s.heap.size ≤ q → lA s q := fun q h => h
  have hx := C0.1
  have hb := C0.2.1
  have hts := C0.2.2.2.2.1
  obtain ⟨⟨n, na, hw, hR⟩, hp, h47, h02, him, ⟨K, hK96, k2, k3⟩, h44, ⟨mm, hm12, m2, m3⟩, h46⟩ := id hG
  obtain ⟨hrn, hrna, hn10, hna, hV⟩ := id hw
  have hkd := zKd_V hV.1
  refine lv_aload_n hx hb dL_law_1197 rfl (lv_at hl 2 rfl) ?_
  refine l_arg 1 h hS hl hi dL_law_1198 dL_law_1199 dL_law_1200 dL_law_1201 dL_law_1202 (by decide) (by decide) rfl ?_
  refine z_Vi C0 hP hD hA hS (As := [.int (xs (i + 1))]) (rest := []) (k := 0) (c_X11_judge l E G (G 93) n na (xs (i + 1)) hR hn10 hna hp hkd mm m2 hm12) (cwV 1 hts (zgV (fun _ h => h) mlRL_135 imX11_judge seX11_judge iniRX11 coX11_judge) rfl rfl rfl (by decide +kernel) ⟨Nat.le_of_ble_eq_true rfl, Nat.le_of_ble_eq_true rfl⟩) (zk_lt (rfl : zk 0 = 9) (by decide)) (zd_9 E (rfl : zk 0 = 9) _) rfl rfl rfl hl.1 rfl (Nat.le_of_ble_eq_true rfl) dL_law_1203 ⟨Nat.le_refl _, Nat.le_refl _⟩ (fun r1 G1 H locs hw1 hP hS => ?_)
  have hF : ∀ k, 91 < k → G1 k = G k := fun k hk => hw1.2.1 k (by omega)
  refine lv_aload_n hx hb dL_law_1206 rfl (lv_at hl 1 rfl) ?_
  refine l_arg 1 h hS hl hi dL_law_1207 dL_law_1208 dL_law_1209 dL_law_1210 dL_law_1211 (by decide) (by decide) rfl ?_
  refine z_Vi C0 hP hD hA hS (As := [.int (xs (i + 1))]) (rest := [.int r1]) (k := 92) (c_X12_judge l E G1 (G 93) n na (xs (i + 1)) (hF 93 (by omega)) hrn hrna hn10 hna mm ((congrFun (hF 92 (by omega)) 9).trans m3) hm12) (cwV 1 hts (zgV (fun _ h => h) mlRL_138 imX12_judge seX12_judge iniRX12 coX12_judge) rfl rfl rfl (by decide +kernel) ⟨Nat.le_of_ble_eq_true rfl, Nat.le_of_ble_eq_true rfl⟩) (zk_lt (rfl : zk 92 = 10) (by decide)) (zd_10 E (rfl : zk 92 = 10) _) rfl rfl rfl hl.1 rfl (Nat.le_of_ble_eq_true rfl) dL_law_1212 ⟨Nat.le_refl _, Nat.le_refl _⟩ (fun r2 G2 H locs hw2 hP hS => ?_)
  obtain ⟨e1, hG2⟩ := zLaw_r hG hw1 hw2 (by rw [show G1 98 = G 46 from (hF 98 (by omega)).trans h46.symm]) (R_judge_k hm12)
  exact lv_icmp_eq (tgt := 1325) hx hb dL_law_1215 (by decide) (fun _ => kk G2 H locs hG2 hP hS) (fun q => absurd e1 q)
set_option maxHeartbeats 4000000 in
theorem l_case_30 (h : lH p s m meth c E b L xs) (hG : zLaw G) (hP : zP E G H) (hS : va_S (lA s) s.heap H locs) (hi : i + 6 ≤ L) (hl : lv_has ls 4 (lv4 i b E))
    (kk : ∀ (G2 : zG) (H2 : Heap) (locs2 : List Loc), zLaw G2 → zP E G2 H2 → va_S (lA s) s.heap H2 locs2 → W p l e room_1 s m #[Value.ref b] below meth c H2 locs2 600000 7302250 Q (F0 m 1325 ls [])) : W p l e room_1 s m #[Value.ref b] below meth c H locs 600000 7302250 Q (F0 m 1220 ls []) := by
  obtain ⟨C0, hX, hbl, hD, hL⟩ := id h
  have hA : ∀ q, s.heap.size ≤ q → lA s q := fun q h => h
  have hx := C0.1
  have hb := C0.2.1
  have hts := C0.2.2.2.2.1
  obtain ⟨⟨n, na, hw, hR⟩, hp, h47, h02, him, ⟨K, hK96, k2, k3⟩, h44, ⟨mm, hm12, m2, m3⟩, h46⟩ := id hG
  obtain ⟨hrn, hrna, hn10, hna, hV⟩ := id hw
  have hkd := zKd_V hV.1
  refine lv_aload_n hx hb dL_law_1220 rfl (lv_at hl 2 rfl) ?_
  refine z_Vi C0 hP hD hA hS (As := []) (rest := []) (k := 0) (c_X11_clear l E G mm m2) (cwV 0 hts (zgV (fun _ h => h) mlRL_139 imX11_clear seX11_clear iniRX11 coX11_clear) rfl rfl rfl (by decide +kernel) ⟨Nat.le_of_ble_eq_true rfl, Nat.le_of_ble_eq_true rfl⟩) (zk_lt (rfl : zk 0 = 9) (by decide)) (zd_9 E (rfl : zk 0 = 9) _) rfl rfl rfl hl.1 rfl (Nat.le_of_ble_eq_true rfl) dL_law_1221 ⟨Nat.le_refl _, Nat.le_refl _⟩ (fun r1 G1 H locs hw1 hP hS => ?_)
  have hF : ∀ k, 91 < k → G1 k = G k := fun k hk => hw1.2.1 k (by omega)
  refine lv_aload_n hx hb dL_law_1224 rfl (lv_at hl 1 rfl) ?_
  refine z_Vi C0 hP hD hA hS (As := []) (rest := [.int r1]) (k := 92) (c_X12_clear l E G1 mm ((congrFun (hF 92 (by omega)) 9).trans m3)) (cwV 0 hts (zgV (fun _ h => h) mlRL_142 imX12_clear seX12_clear iniRX12 coX12_clear) rfl rfl rfl (by decide +kernel) ⟨Nat.le_of_ble_eq_true rfl, Nat.le_of_ble_eq_true rfl⟩) (zk_lt (rfl : zk 92 = 10) (by decide)) (zd_10 E (rfl : zk 92 = 10) _) rfl rfl rfl hl.1 rfl (Nat.le_of_ble_eq_true rfl) dL_law_1225 ⟨Nat.le_refl _, Nat.le_refl _⟩ (fun r2 G2 H locs hw2 hP hS => ?_)
  obtain ⟨e1, hG2⟩ := zLaw_c hG hw1 hw2
  exact lv_icmp_eq (tgt := 1325) hx hb dL_law_1228 (by decide) (fun _ => kk G2 H locs hG2 hP hS) (fun q => absurd e1 q)
set_option maxHeartbeats 4000000 in
theorem l_case_31 (h : lH p s m meth c E b L xs) (hG : zLaw G) (hP : zP E G H) (hS : va_S (lA s) s.heap H locs) (hi : i + 6 ≤ L) (hl : lv_has ls 4 (lv4 i b E))
    (kk : ∀ (G2 : zG) (H2 : Heap) (locs2 : List Loc), zLaw G2 → zP E G2 H2 → va_S (lA s) s.heap H2 locs2 → W p l e room_1 s m #[Value.ref b] below meth c H2 locs2 600000 7302250 Q (F0 m 1325 ls [])) : W p l e room_1 s m #[Value.ref b] below meth c H locs 600000 7302250 Q (F0 m 1233 ls []) := by
  obtain ⟨C0, hX, hbl, hD, hL⟩ := id h
  have hA : ∀ q, s.heap.size ≤ q → lA s q := fun q h => h
  have hx := C0.1
  have hb := C0.2.1
  have hts := C0.2.2.2.2.1
  obtain ⟨⟨n, na, hw, hR⟩, hp, h47, h02, him, ⟨K, hK96, k2, k3⟩, h44, ⟨mm, hm12, m2, m3⟩, h46⟩ := id hG
  obtain ⟨hrn, hrna, hn10, hna, hV⟩ := id hw
  have hkd := zKd_V hV.1
  refine lv_aload_n hx hb dL_law_1233 rfl (lv_at hl 2 rfl) ?_
  refine l_arg 1 h hS hl hi dL_law_1234 dL_law_1235 dL_law_1236 dL_law_1237 dL_law_1238 (by decide) (by decide) rfl ?_
  refine l_arg 2 h hS hl hi dL_law_1239 dL_law_1240 dL_law_1241 dL_law_1242 dL_law_1243 (by decide) (by decide) rfl ?_
  refine l_arg 3 h hS hl hi dL_law_1244 dL_law_1245 dL_law_1246 dL_law_1247 dL_law_1248 (by decide) (by decide) rfl ?_
  refine z_Vi C0 hP hD hA hS (As := [.int (xs (i + 1)), .int (xs (i + 2)), .int (xs (i + 3))]) (rest := []) (k := 0) (c_X11_lots l E G (G 93) n na (xs (i + 1)) (xs (i + 2)) (xs (i + 3)) hR hn10 hna hp hkd) (cwV 3 hts (zgV (fun _ h => h) mlRL_143 imX11_lots seX11_lots iniRX11 coX11_lots) rfl rfl rfl (by decide +kernel) ⟨Nat.le_of_ble_eq_true rfl, Nat.le_of_ble_eq_true rfl⟩) (zk_lt (rfl : zk 0 = 9) (by decide)) (zd_9 E (rfl : zk 0 = 9) _) rfl rfl rfl hl.1 rfl (Nat.le_of_ble_eq_true rfl) dL_law_1249 ⟨Nat.le_refl _, Nat.le_refl _⟩ (fun r1 G1 H locs hw1 hP hS => ?_)
  have hF : ∀ k, 91 < k → G1 k = G k := fun k hk => hw1.2.1 k (by omega)
  refine lv_aload_n hx hb dL_law_1252 rfl (lv_at hl 1 rfl) ?_
  refine l_arg 1 h hS hl hi dL_law_1253 dL_law_1254 dL_law_1255 dL_law_1256 dL_law_1257 (by decide) (by decide) rfl ?_
  refine l_arg 2 h hS hl hi dL_law_1258 dL_law_1259 dL_law_1260 dL_law_1261 dL_law_1262 (by decide) (by decide) rfl ?_
  refine l_arg 3 h hS hl hi dL_law_1263 dL_law_1264 dL_law_1265 dL_law_1266 dL_law_1267 (by decide) (by decide) rfl ?_
  refine z_Vi C0 hP hD hA hS (As := [.int (xs (i + 1)), .int (xs (i + 2)), .int (xs (i + 3))]) (rest := [.int r1]) (k := 92) (c_X12_lots l E G1 (G 93) n na (xs (i + 1)) (xs (i + 2)) (xs (i + 3)) (hF 93 (by omega)) hrn hrna hn10 hna) (cwV 3 hts (zgV (fun _ h => h) mlRL_146 imX12_lots seX12_lots iniRX12 coX12_lots) rfl rfl rfl (by decide +kernel) ⟨Nat.le_of_ble_eq_true rfl, Nat.le_of_ble_eq_true rfl⟩) (zk_lt (rfl : zk 92 = 10) (by decide)) (zd_10 E (rfl : zk 92 = 10) _) rfl rfl rfl hl.1 rfl (Nat.le_of_ble_eq_true rfl) dL_law_1268 ⟨Nat.le_refl _, Nat.le_refl _⟩ (fun r2 G2 H locs hw2 hP hS => ?_)
  obtain ⟨e1, hG2⟩ := zLaw_s hG hw1 hw2 rfl
  exact lv_icmp_eq (tgt := 1325) hx hb dL_law_1271 (by decide) (fun _ => kk G2 H locs hG2 hP hS) (fun q => absurd e1 q)
set_option maxHeartbeats 4000000 in
theorem l_case_32 (h : lH p s m meth c E b L xs) (hG : zLaw G) (hP : zP E G H) (hS : va_S (lA s) s.heap H locs) (hi : i + 6 ≤ L) (hl : lv_has ls 4 (lv4 i b E))
    (kk : ∀ (G2 : zG) (H2 : Heap) (locs2 : List Loc), zLaw G2 → zP E G2 H2 → va_S (lA s) s.heap H2 locs2 → W p l e room_1 s m #[Value.ref b] below meth c H2 locs2 600000 7302250 Q (F0 m 1325 ls [])) : W p l e room_1 s m #[Value.ref b] below meth c H locs 600000 7302250 Q (F0 m 1276 ls []) := by
  obtain ⟨C0, hX, hbl, hD, hL⟩ := id h
  have hA : ∀ q, s.heap.size ≤ q → lA s q := fun q h => h
  have hx := C0.1
  have hb := C0.2.1
  have hts := C0.2.2.2.2.1
  obtain ⟨⟨n, na, hw, hR⟩, hp, h47, h02, him, ⟨K, hK96, k2, k3⟩, h44, ⟨mm, hm12, m2, m3⟩, h46⟩ := id hG
  obtain ⟨hrn, hrna, hn10, hna, hV⟩ := id hw
  have hkd := zKd_V hV.1
  refine lv_aload_n hx hb dL_law_1276 rfl (lv_at hl 2 rfl) ?_
  refine z_Vi C0 hP hD hA hS (As := []) (rest := []) (k := 0) (c_X11_image l E G (G 93) n na hR hn10 hna) (cwV 0 hts (zgV (fun _ h => h) mlRL_147 imX11_image seX11_image iniRX11 coX11_image) rfl rfl rfl (by decide +kernel) ⟨Nat.le_of_ble_eq_true rfl, Nat.le_of_ble_eq_true rfl⟩) (zk_lt (rfl : zk 0 = 9) (by decide)) (zd_9 E (rfl : zk 0 = 9) _) rfl rfl rfl hl.1 rfl (Nat.le_of_ble_eq_true rfl) dL_law_1277 ⟨Nat.le_refl _, Nat.le_refl _⟩ (fun r1 G1 H locs hw1 hP hS => ?_)
  have hF : ∀ k, 91 < k → G1 k = G k := fun k hk => hw1.2.1 k (by omega)
  refine lv_aload_n hx hb dL_law_1280 rfl (lv_at hl 1 rfl) ?_
  refine z_Vi C0 hP hD hA hS (As := []) (rest := [.int r1]) (k := 92) (c_X12_image l E G1 (G 93) n na (hF 93 (by omega)) hrn hrna hn10 hna) (cwV 0 hts (zgV (fun _ h => h) mlRL_150 imX12_image seX12_image iniRX12 coX12_image) rfl rfl rfl (by decide +kernel) ⟨Nat.le_of_ble_eq_true rfl, Nat.le_of_ble_eq_true rfl⟩) (zk_lt (rfl : zk 92 = 10) (by decide)) (zd_10 E (rfl : zk 92 = 10) _) rfl rfl rfl hl.1 rfl (Nat.le_of_ble_eq_true rfl) dL_law_1281 ⟨Nat.le_refl _, Nat.le_refl _⟩ (fun r2 G2 H locs hw2 hP hS => ?_)
  obtain ⟨e1, hG2⟩ := zLaw_i hG rfl hw hR hw1 hw2
  exact lv_icmp_eq (tgt := 1325) hx hb dL_law_1284 (by decide) (fun _ => kk G2 H locs hG2 hP hS) (fun q => absurd e1 q)
set_option maxHeartbeats 4000000 in
theorem l_case_33 (h : lH p s m meth c E b L xs) (hG : zLaw G) (hP : zP E G H) (hS : va_S (lA s) s.heap H locs) (hi : i + 6 ≤ L) (hl : lv_has ls 4 (lv4 i b E))
    (kk : ∀ (G2 : zG) (H2 : Heap) (locs2 : List Loc), zLaw G2 → zP E G2 H2 → va_S (lA s) s.heap H2 locs2 → W p l e room_1 s m #[Value.ref b] below meth c H2 locs2 600000 7302250 Q (F0 m 1325 ls [])) : W p l e room_1 s m #[Value.ref b] below meth c H locs 600000 7302250 Q (F0 m 1289 ls []) := by
  obtain ⟨C0, hX, hbl, hD, hL⟩ := id h
  have hA : ∀ q, s.heap.size ≤ q → lA s q := fun q h => h
  have hx := C0.1
  have hb := C0.2.1
  have hts := C0.2.2.2.2.1
  obtain ⟨⟨n, na, hw, hR⟩, hp, h47, h02, him, ⟨K, hK96, k2, k3⟩, h44, ⟨mm, hm12, m2, m3⟩, h46⟩ := id hG
  obtain ⟨hrn, hrna, hn10, hna, hV⟩ := id hw
  have hkd := zKd_V hV.1
  clear hw hR hrn hrna hn10 hna hV hkd
  obtain ⟨n1, na1, hI0⟩ := zLaw_o0 hG
  refine lv_aload_n hx hb dL_law_1289 rfl (lv_at hl 2 rfl) ?_
  refine z_Vi C0 hP hD hA hS (As := []) (rest := []) (k := 0) (c_X11_on l E G (G 95) n1 na1 (fun q => ⟨(hI0 q).2, (hI0 q).1.2.2.1, (hI0 q).1.2.2.2.1⟩)) (cwV 0 hts (zgV (fun _ h => h) mlRL_151 imX11_on seX11_on iniRX11 coX11_on) rfl rfl rfl (by decide +kernel) ⟨Nat.le_of_ble_eq_true rfl, Nat.le_of_ble_eq_true rfl⟩) (zk_lt (rfl : zk 0 = 9) (by decide)) (zd_9 E (rfl : zk 0 = 9) _) rfl rfl rfl hl.1 rfl (Nat.le_of_ble_eq_true rfl) dL_law_1290 ⟨Nat.le_refl _, Nat.le_refl _⟩ (fun r1 G1 H locs hw1 hP hS => ?_)
  have hF : ∀ k, 91 < k → G1 k = G k := by
    rcases hw1 with ⟨_, _, e⟩ | ⟨_, _, f, _⟩
    · exact fun k hk => by rw [← e]; exact g1_n (by omega)
    · exact fun k hk => f k (by omega)
  refine lv_aload_n hx hb dL_law_1293 rfl (lv_at hl 1 rfl) ?_
  refine z_Vi C0 hP hD hA hS (As := []) (rest := [.int r1]) (k := 92) (c_X12_on l E G1 n1 (fun q => by rw [hF 92 (by omega)] at q; rw [hF 95 (by omega)]; exact (hI0 (by rw [h02]; exact q)).1.1)) (cwV 0 hts (zgV (fun _ h => h) mlRL_154 imX12_on seX12_on iniRX12 coX12_on) rfl rfl rfl (by decide +kernel) ⟨Nat.le_of_ble_eq_true rfl, Nat.le_of_ble_eq_true rfl⟩) (zk_lt (rfl : zk 92 = 10) (by decide)) (zd_10 E (rfl : zk 92 = 10) _) rfl rfl rfl hl.1 rfl (Nat.le_of_ble_eq_true rfl) dL_law_1294 ⟨Nat.le_refl _, Nat.le_refl _⟩ (fun r2 G2 H locs hw2 hP hS => ?_)
  obtain ⟨e1, hG2⟩ := zLaw_o hG rfl hI0 hw1 hw2
  exact lv_icmp_eq (tgt := 1325) hx hb dL_law_1297 (by decide) (fun _ => kk G2 H locs hG2 hP hS) (fun q => absurd e1 q)
set_option maxHeartbeats 4000000 in
theorem l_case_34 (h : lH p s m meth c E b L xs) (hG : zLaw G) (hP : zP E G H) (hS : va_S (lA s) s.heap H locs) (hi : i + 6 ≤ L) (hl : lv_has ls 4 (lv4 i b E))
    (kk : ∀ (G2 : zG) (H2 : Heap) (locs2 : List Loc), zLaw G2 → zP E G2 H2 → va_S (lA s) s.heap H2 locs2 → W p l e room_1 s m #[Value.ref b] below meth c H2 locs2 600000 7302250 Q (F0 m 1325 ls [])) : W p l e room_1 s m #[Value.ref b] below meth c H locs 600000 7302250 Q (F0 m 1302 ls []) := by
  obtain ⟨C0, hX, hbl, hD, hL⟩ := id h
  have hA : ∀ q, s.heap.size ≤ q → lA s q := fun q h => h
  have hx := C0.1
  have hb := C0.2.1
  have hts := C0.2.2.2.2.1
  obtain ⟨⟨n, na, hw, hR⟩, hp, h47, h02, him, ⟨K, hK96, k2, k3⟩, h44, ⟨mm, hm12, m2, m3⟩, h46⟩ := id hG
  obtain ⟨hrn, hrna, hn10, hna, hV⟩ := id hw
  have hkd := zKd_V hV.1
  refine lv_aload_n hx hb dL_law_1302 rfl (lv_at hl 2 rfl) ?_
  refine l_arg 1 h hS hl hi dL_law_1303 dL_law_1304 dL_law_1305 dL_law_1306 dL_law_1307 (by decide) (by decide) rfl ?_
  refine z_Vi C0 hP hD hA hS (As := [.int (xs (i + 1))]) (rest := []) (k := 0) (c_X11_count l E G (G 93) n na (xs (i + 1)) hR hn10 hna hp) (cwV 1 hts (zgV (fun _ h => h) mlRL_155 imX11_count seX11_count iniRX11 coX11_count) rfl rfl rfl (by decide +kernel) ⟨Nat.le_of_ble_eq_true rfl, Nat.le_of_ble_eq_true rfl⟩) (zk_lt (rfl : zk 0 = 9) (by decide)) (zd_9 E (rfl : zk 0 = 9) _) rfl rfl rfl hl.1 rfl (Nat.le_of_ble_eq_true rfl) dL_law_1308 ⟨Nat.le_refl _, Nat.le_refl _⟩ (fun r1 G1 H locs hw1 hP hS => ?_)
  have hF : ∀ k, 91 < k → G1 k = G k := fun k hk => hw1.2.1 k (by omega)
  refine lv_aload_n hx hb dL_law_1311 rfl (lv_at hl 1 rfl) ?_
  refine l_arg 1 h hS hl hi dL_law_1312 dL_law_1313 dL_law_1314 dL_law_1315 dL_law_1316 (by decide) (by decide) rfl ?_
  refine z_Vi C0 hP hD hA hS (As := [.int (xs (i + 1))]) (rest := [.int r1]) (k := 92) (c_X12_count l E G1 (G 93) n na (xs (i + 1)) (hF 93 (by omega)) hrn hrna hn10 hna) (cwV 1 hts (zgV (fun _ h => h) mlRL_158 imX12_count seX12_count iniRX12 coX12_count) rfl rfl rfl (by decide +kernel) ⟨Nat.le_of_ble_eq_true rfl, Nat.le_of_ble_eq_true rfl⟩) (zk_lt (rfl : zk 92 = 10) (by decide)) (zd_10 E (rfl : zk 92 = 10) _) rfl rfl rfl hl.1 rfl (Nat.le_of_ble_eq_true rfl) dL_law_1317 ⟨Nat.le_refl _, Nat.le_refl _⟩ (fun r2 G2 H locs hw2 hP hS => ?_)
  obtain ⟨e1, hG2⟩ := zLaw_q hG hw1 hw2 (by rw [show G1 99 = G 47 from (hF 99 (by omega)).trans h47.symm, show G1 92 9 = G 45 0 from (congrFun (hF 92 (by omega)) 9).trans (m3.trans m2.symm), show G1 92 8 = G 43 0 from (congrFun (hF 92 (by omega)) 8).trans (k3.trans k2.symm)])
  exact lv_icmp_eq (tgt := 1325) hx hb dL_law_1320 (by decide) (fun _ => kk G2 H locs hG2 hP hS) (fun q => absurd e1 q)
end LAW
