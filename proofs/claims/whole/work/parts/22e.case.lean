section LAW
variable {p : Program} {l : Launch} {e : Env} {s : State} {m : MethodId} {below : List Frame} {meth : Method} {c : Code} {H : Heap} {locs : List Loc} {Q : State → Prop} {ls : Array Slot} {E : zE} {G : zG} {b L i : Nat} {xs : Nat → Int32}
set_option maxHeartbeats 4000000 in
theorem l_case_12 (h : lH p s m meth c E b L xs) (hG : zLaw G) (hP : zP E G H) (hS : va_S (lA s) s.heap H locs) (hi : i + 6 ≤ L) (hl : lv_has ls 4 (lv4 i b E))
    (kk : ∀ (G2 : zG) (H2 : Heap) (locs2 : List Loc), zLaw G2 → zP E G2 H2 → va_S (lA s) s.heap H2 locs2 → W p l e room_1 s m #[Value.ref b] below meth c H2 locs2 600000 7302250 Q (F0 m 1325 ls [])) : W p l e room_1 s m #[Value.ref b] below meth c H locs 600000 7302250 Q (F0 m 594 ls []) := by
  obtain ⟨C0, hX, hbl, hD, hL⟩ := id h
  have hA : ∀ q, s.heap.size ≤ q → lA s q := fun q h => h
  have hx := C0.1
  have hb := C0.2.1
  have hts := C0.2.2.2.2.1
  obtain ⟨⟨n, na, hw, hR⟩, hp, h47, h02, him, ⟨K, hK96, k2, k3⟩, h44, ⟨mm, hm12, m2, m3⟩, h46⟩ := id hG
  obtain ⟨hrn, hrna, hn10, hna, hV⟩ := id hw
  have hkd := zKd_V hV.1
  refine lv_aload_n hx hb dL_law_594 rfl (lv_at hl 2 rfl) ?_
  refine l_arg 1 h hS hl hi dL_law_595 dL_law_596 dL_law_597 dL_law_598 dL_law_599 (by decide) (by decide) rfl ?_
  refine l_arg 2 h hS hl hi dL_law_600 dL_law_601 dL_law_602 dL_law_603 dL_law_604 (by decide) (by decide) rfl ?_
  refine l_arg 3 h hS hl hi dL_law_605 dL_law_606 dL_law_607 dL_law_608 dL_law_609 (by decide) (by decide) rfl ?_
  refine z_Vi C0 hP hD hA hS (As := [.int (xs (i + 1)), .int (xs (i + 2)), .int (xs (i + 3))]) (rest := []) (k := 0) (c_X11_overtakes l E G (G 93) n na (xs (i + 1)) (xs (i + 2)) (xs (i + 3)) hR hn10 hna hp hkd) (cwV 3 hts (zgV (fun _ h => h) mlRL_65 imX11_overtakes seX11_overtakes iniRX11 coX11_overtakes) rfl rfl rfl (by decide +kernel) ⟨Nat.le_of_ble_eq_true rfl, Nat.le_of_ble_eq_true rfl⟩) (zk_lt (rfl : zk 0 = 9) (by decide)) (zd_9 E (rfl : zk 0 = 9) _) rfl rfl rfl hl.1 rfl (Nat.le_of_ble_eq_true rfl) dL_law_610 ⟨Nat.le_refl _, Nat.le_refl _⟩ (fun r1 G1 H locs hw1 hP hS => ?_)
  have hF : ∀ k, 91 < k → G1 k = G k := fun k hk => hw1.2.1 k (by omega)
  refine lv_aload_n hx hb dL_law_613 rfl (lv_at hl 1 rfl) ?_
  refine l_arg 1 h hS hl hi dL_law_614 dL_law_615 dL_law_616 dL_law_617 dL_law_618 (by decide) (by decide) rfl ?_
  refine l_arg 2 h hS hl hi dL_law_619 dL_law_620 dL_law_621 dL_law_622 dL_law_623 (by decide) (by decide) rfl ?_
  refine l_arg 3 h hS hl hi dL_law_624 dL_law_625 dL_law_626 dL_law_627 dL_law_628 (by decide) (by decide) rfl ?_
  refine z_Vi C0 hP hD hA hS (As := [.int (xs (i + 1)), .int (xs (i + 2)), .int (xs (i + 3))]) (rest := [.int r1]) (k := 92) (c_X12_overtakes l E G1 (G 93) n na (xs (i + 1)) (xs (i + 2)) (xs (i + 3)) (hF 93 (by omega)) hrn hrna hn10 hna) (cwV 3 hts (zgV (fun _ h => h) mlRL_68 imX12_overtakes seX12_overtakes iniRX12 coX12_overtakes) rfl rfl rfl (by decide +kernel) ⟨Nat.le_of_ble_eq_true rfl, Nat.le_of_ble_eq_true rfl⟩) (zk_lt (rfl : zk 92 = 10) (by decide)) (zd_10 E (rfl : zk 92 = 10) _) rfl rfl rfl hl.1 rfl (Nat.le_of_ble_eq_true rfl) dL_law_629 ⟨Nat.le_refl _, Nat.le_refl _⟩ (fun r2 G2 H locs hw2 hP hS => ?_)
  obtain ⟨e1, hG2⟩ := zLaw_q hG hw1 hw2 rfl
  exact lv_icmp_eq (tgt := 1325) hx hb dL_law_632 (by decide) (fun _ => kk G2 H locs hG2 hP hS) (fun q => absurd e1 q)
set_option maxHeartbeats 4000000 in
theorem l_case_13 (h : lH p s m meth c E b L xs) (hG : zLaw G) (hP : zP E G H) (hS : va_S (lA s) s.heap H locs) (hi : i + 6 ≤ L) (hl : lv_has ls 4 (lv4 i b E))
    (kk : ∀ (G2 : zG) (H2 : Heap) (locs2 : List Loc), zLaw G2 → zP E G2 H2 → va_S (lA s) s.heap H2 locs2 → W p l e room_1 s m #[Value.ref b] below meth c H2 locs2 600000 7302250 Q (F0 m 1325 ls [])) : W p l e room_1 s m #[Value.ref b] below meth c H locs 600000 7302250 Q (F0 m 637 ls []) := by
  obtain ⟨C0, hX, hbl, hD, hL⟩ := id h
  have hA : ∀ q, s.heap.size ≤ q → lA s q := fun q h => h
  have hx := C0.1
  have hb := C0.2.1
  have hts := C0.2.2.2.2.1
  obtain ⟨⟨n, na, hw, hR⟩, hp, h47, h02, him, ⟨K, hK96, k2, k3⟩, h44, ⟨mm, hm12, m2, m3⟩, h46⟩ := id hG
  obtain ⟨hrn, hrna, hn10, hna, hV⟩ := id hw
  have hkd := zKd_V hV.1
  refine lv_aload_n hx hb dL_law_637 rfl (lv_at hl 2 rfl) ?_
  refine l_arg 1 h hS hl hi dL_law_638 dL_law_639 dL_law_640 dL_law_641 dL_law_642 (by decide) (by decide) rfl ?_
  refine l_arg 2 h hS hl hi dL_law_643 dL_law_644 dL_law_645 dL_law_646 dL_law_647 (by decide) (by decide) rfl ?_
  refine z_Vi C0 hP hD hA hS (As := [.int (xs (i + 1)), .int (xs (i + 2))]) (rest := []) (k := 0) (c_X11_bestPlan l E G (G 93) n na (xs (i + 1)) (xs (i + 2)) hR hn10 hna hp hkd hV) (cwV 2 hts (zgV (fun _ h => h) mlRL_69 imX11_bestPlan seX11_bestPlan iniRX11 coX11_bestPlan) rfl rfl rfl (by decide +kernel) ⟨Nat.le_of_ble_eq_true rfl, Nat.le_of_ble_eq_true rfl⟩) (zk_lt (rfl : zk 0 = 9) (by decide)) (zd_9 E (rfl : zk 0 = 9) _) rfl rfl rfl hl.1 rfl (Nat.le_of_ble_eq_true rfl) dL_law_648 ⟨Nat.le_refl _, Nat.le_refl _⟩ (fun r1 G1 H locs hw1 hP hS => ?_)
  have hF : ∀ k, 91 < k → G1 k = G k := fun k hk => hw1.2.1 k (by omega)
  refine lv_aload_n hx hb dL_law_651 rfl (lv_at hl 1 rfl) ?_
  refine l_arg 1 h hS hl hi dL_law_652 dL_law_653 dL_law_654 dL_law_655 dL_law_656 (by decide) (by decide) rfl ?_
  refine l_arg 2 h hS hl hi dL_law_657 dL_law_658 dL_law_659 dL_law_660 dL_law_661 (by decide) (by decide) rfl ?_
  refine z_Vi C0 hP hD hA hS (As := [.int (xs (i + 1)), .int (xs (i + 2))]) (rest := [.int r1]) (k := 92) (c_X12_bestPlan l E G1 (G 93) n na (xs (i + 1)) (xs (i + 2)) (hF 93 (by omega)) hrn hrna hn10 hna hkd hV) (cwV 2 hts (zgV (fun _ h => h) mlRL_72 imX12_bestPlan seX12_bestPlan iniRX12 coX12_bestPlan) rfl rfl rfl (by decide +kernel) ⟨Nat.le_of_ble_eq_true rfl, Nat.le_of_ble_eq_true rfl⟩) (zk_lt (rfl : zk 92 = 10) (by decide)) (zd_10 E (rfl : zk 92 = 10) _) rfl rfl rfl hl.1 rfl (Nat.le_of_ble_eq_true rfl) dL_law_662 ⟨Nat.le_refl _, Nat.le_refl _⟩ (fun r2 G2 H locs hw2 hP hS => ?_)
  obtain ⟨e1, hG2⟩ := zLaw_q hG hw1 hw2 rfl
  exact lv_icmp_eq (tgt := 1325) hx hb dL_law_665 (by decide) (fun _ => kk G2 H locs hG2 hP hS) (fun q => absurd e1 q)
set_option maxHeartbeats 4000000 in
theorem l_case_14 (h : lH p s m meth c E b L xs) (hG : zLaw G) (hP : zP E G H) (hS : va_S (lA s) s.heap H locs) (hi : i + 6 ≤ L) (hl : lv_has ls 4 (lv4 i b E))
    (kk : ∀ (G2 : zG) (H2 : Heap) (locs2 : List Loc), zLaw G2 → zP E G2 H2 → va_S (lA s) s.heap H2 locs2 → W p l e room_1 s m #[Value.ref b] below meth c H2 locs2 600000 7302250 Q (F0 m 1325 ls [])) : W p l e room_1 s m #[Value.ref b] below meth c H locs 600000 7302250 Q (F0 m 670 ls []) := by
  obtain ⟨C0, hX, hbl, hD, hL⟩ := id h
  have hA : ∀ q, s.heap.size ≤ q → lA s q := fun q h => h
  have hx := C0.1
  have hb := C0.2.1
  have hts := C0.2.2.2.2.1
  obtain ⟨⟨n, na, hw, hR⟩, hp, h47, h02, him, ⟨K, hK96, k2, k3⟩, h44, ⟨mm, hm12, m2, m3⟩, h46⟩ := id hG
  obtain ⟨hrn, hrna, hn10, hna, hV⟩ := id hw
  have hkd := zKd_V hV.1
  refine lv_aload_n hx hb dL_law_670 rfl (lv_at hl 2 rfl) ?_
  refine l_arg 1 h hS hl hi dL_law_671 dL_law_672 dL_law_673 dL_law_674 dL_law_675 (by decide) (by decide) rfl ?_
  refine z_Vi C0 hP hD hA hS (As := [.int (xs (i + 1))]) (rest := []) (k := 0) (c_X11_hardest l E G (G 93) n na (xs (i + 1)) hR hn10 hna hp hkd) (cwV 1 hts (zgV (fun _ h => h) mlRL_73 imX11_hardest seX11_hardest iniRX11 coX11_hardest) rfl rfl rfl (by decide +kernel) ⟨Nat.le_of_ble_eq_true rfl, Nat.le_of_ble_eq_true rfl⟩) (zk_lt (rfl : zk 0 = 9) (by decide)) (zd_9 E (rfl : zk 0 = 9) _) rfl rfl rfl hl.1 rfl (Nat.le_of_ble_eq_true rfl) dL_law_676 ⟨Nat.le_refl _, Nat.le_refl _⟩ (fun r1 G1 H locs hw1 hP hS => ?_)
  have hF : ∀ k, 91 < k → G1 k = G k := fun k hk => hw1.2.1 k (by omega)
  refine lv_aload_n hx hb dL_law_679 rfl (lv_at hl 1 rfl) ?_
  refine l_arg 1 h hS hl hi dL_law_680 dL_law_681 dL_law_682 dL_law_683 dL_law_684 (by decide) (by decide) rfl ?_
  refine z_Vi C0 hP hD hA hS (As := [.int (xs (i + 1))]) (rest := [.int r1]) (k := 92) (c_X12_hardest l E G1 (G 93) n na (xs (i + 1)) (hF 93 (by omega)) hrn hrna hn10 hna) (cwV 1 hts (zgV (fun _ h => h) mlRL_76 imX12_hardest seX12_hardest iniRX12 coX12_hardest) rfl rfl rfl (by decide +kernel) ⟨Nat.le_of_ble_eq_true rfl, Nat.le_of_ble_eq_true rfl⟩) (zk_lt (rfl : zk 92 = 10) (by decide)) (zd_10 E (rfl : zk 92 = 10) _) rfl rfl rfl hl.1 rfl (Nat.le_of_ble_eq_true rfl) dL_law_685 ⟨Nat.le_refl _, Nat.le_refl _⟩ (fun r2 G2 H locs hw2 hP hS => ?_)
  obtain ⟨e1, hG2⟩ := zLaw_q hG hw1 hw2 rfl
  exact lv_icmp_eq (tgt := 1325) hx hb dL_law_688 (by decide) (fun _ => kk G2 H locs hG2 hP hS) (fun q => absurd e1 q)
set_option maxHeartbeats 4000000 in
theorem l_case_15 (h : lH p s m meth c E b L xs) (hG : zLaw G) (hP : zP E G H) (hS : va_S (lA s) s.heap H locs) (hi : i + 6 ≤ L) (hl : lv_has ls 4 (lv4 i b E))
    (kk : ∀ (G2 : zG) (H2 : Heap) (locs2 : List Loc), zLaw G2 → zP E G2 H2 → va_S (lA s) s.heap H2 locs2 → W p l e room_1 s m #[Value.ref b] below meth c H2 locs2 600000 7302250 Q (F0 m 1325 ls [])) : W p l e room_1 s m #[Value.ref b] below meth c H locs 600000 7302250 Q (F0 m 693 ls []) := by
  obtain ⟨C0, hX, hbl, hD, hL⟩ := id h
  have hA : ∀ q, s.heap.size ≤ q → lA s q := fun q h => h
  have hx := C0.1
  have hb := C0.2.1
  have hts := C0.2.2.2.2.1
  obtain ⟨⟨n, na, hw, hR⟩, hp, h47, h02, him, ⟨K, hK96, k2, k3⟩, h44, ⟨mm, hm12, m2, m3⟩, h46⟩ := id hG
  obtain ⟨hrn, hrna, hn10, hna, hV⟩ := id hw
  have hkd := zKd_V hV.1
  refine lv_aload_n hx hb dL_law_693 rfl (lv_at hl 2 rfl) ?_
  refine l_arg 1 h hS hl hi dL_law_694 dL_law_695 dL_law_696 dL_law_697 dL_law_698 (by decide) (by decide) rfl ?_
  refine l_arg 2 h hS hl hi dL_law_699 dL_law_700 dL_law_701 dL_law_702 dL_law_703 (by decide) (by decide) rfl ?_
  refine z_Vi C0 hP hD hA hS (As := [.int (xs (i + 1)), .int (xs (i + 2))]) (rest := []) (k := 0) (c_X11_leastTries l E G (G 93) n na (xs (i + 1)) (xs (i + 2)) hR hn10 hna hp hkd hV) (cwV 2 hts (zgV (fun _ h => h) mlRL_77 imX11_leastTries seX11_leastTries iniRX11 coX11_leastTries) rfl rfl rfl (by decide +kernel) ⟨Nat.le_of_ble_eq_true rfl, Nat.le_of_ble_eq_true rfl⟩) (zk_lt (rfl : zk 0 = 9) (by decide)) (zd_9 E (rfl : zk 0 = 9) _) rfl rfl rfl hl.1 rfl (Nat.le_of_ble_eq_true rfl) dL_law_704 ⟨Nat.le_refl _, Nat.le_refl _⟩ (fun r1 G1 H locs hw1 hP hS => ?_)
  have hF : ∀ k, 91 < k → G1 k = G k := fun k hk => hw1.2.1 k (by omega)
  refine lv_aload_n hx hb dL_law_707 rfl (lv_at hl 1 rfl) ?_
  refine l_arg 1 h hS hl hi dL_law_708 dL_law_709 dL_law_710 dL_law_711 dL_law_712 (by decide) (by decide) rfl ?_
  refine l_arg 2 h hS hl hi dL_law_713 dL_law_714 dL_law_715 dL_law_716 dL_law_717 (by decide) (by decide) rfl ?_
  refine z_Vi C0 hP hD hA hS (As := [.int (xs (i + 1)), .int (xs (i + 2))]) (rest := [.int r1]) (k := 92) (c_X12_leastTries l E G1 (G 93) n na (xs (i + 1)) (xs (i + 2)) (hF 93 (by omega)) hrn hrna hn10 hna hkd hV) (cwV 2 hts (zgV (fun _ h => h) mlRL_80 imX12_leastTries seX12_leastTries iniRX12 coX12_leastTries) rfl rfl rfl (by decide +kernel) ⟨Nat.le_of_ble_eq_true rfl, Nat.le_of_ble_eq_true rfl⟩) (zk_lt (rfl : zk 92 = 10) (by decide)) (zd_10 E (rfl : zk 92 = 10) _) rfl rfl rfl hl.1 rfl (Nat.le_of_ble_eq_true rfl) dL_law_718 ⟨Nat.le_refl _, Nat.le_refl _⟩ (fun r2 G2 H locs hw2 hP hS => ?_)
  obtain ⟨e1, hG2⟩ := zLaw_q hG hw1 hw2 rfl
  exact lv_icmp_eq (tgt := 1325) hx hb dL_law_721 (by decide) (fun _ => kk G2 H locs hG2 hP hS) (fun q => absurd e1 q)
set_option maxHeartbeats 4000000 in
theorem l_case_16 (h : lH p s m meth c E b L xs) (hG : zLaw G) (hP : zP E G H) (hS : va_S (lA s) s.heap H locs) (hi : i + 6 ≤ L) (hl : lv_has ls 4 (lv4 i b E))
    (kk : ∀ (G2 : zG) (H2 : Heap) (locs2 : List Loc), zLaw G2 → zP E G2 H2 → va_S (lA s) s.heap H2 locs2 → W p l e room_1 s m #[Value.ref b] below meth c H2 locs2 600000 7302250 Q (F0 m 1325 ls [])) : W p l e room_1 s m #[Value.ref b] below meth c H locs 600000 7302250 Q (F0 m 726 ls []) := by
  obtain ⟨C0, hX, hbl, hD, hL⟩ := id h
  have hA : ∀ q, s.heap.size ≤ q → lA s q := fun q h => h
  have hx := C0.1
  have hb := C0.2.1
  have hts := C0.2.2.2.2.1
  obtain ⟨⟨n, na, hw, hR⟩, hp, h47, h02, him, ⟨K, hK96, k2, k3⟩, h44, ⟨mm, hm12, m2, m3⟩, h46⟩ := id hG
  obtain ⟨hrn, hrna, hn10, hna, hV⟩ := id hw
  have hkd := zKd_V hV.1
  refine lv_aload_n hx hb dL_law_726 rfl (lv_at hl 2 rfl) ?_
  refine l_arg 1 h hS hl hi dL_law_727 dL_law_728 dL_law_729 dL_law_730 dL_law_731 (by decide) (by decide) rfl ?_
  refine l_arg 2 h hS hl hi dL_law_732 dL_law_733 dL_law_734 dL_law_735 dL_law_736 (by decide) (by decide) rfl ?_
  refine z_Vi C0 hP hD hA hS (As := [.int (xs (i + 1)), .int (xs (i + 2))]) (rest := []) (k := 0) (c_X11_drink l E G (G 93) n na (xs (i + 1)) (xs (i + 2)) hR hn10 hna hp hkd) (cwV 2 hts (zgV (fun _ h => h) mlRL_81 imX11_drink seX11_drink iniRX11 coX11_drink) rfl rfl rfl (by decide +kernel) ⟨Nat.le_of_ble_eq_true rfl, Nat.le_of_ble_eq_true rfl⟩) (zk_lt (rfl : zk 0 = 9) (by decide)) (zd_9 E (rfl : zk 0 = 9) _) rfl rfl rfl hl.1 rfl (Nat.le_of_ble_eq_true rfl) dL_law_737 ⟨Nat.le_refl _, Nat.le_refl _⟩ (fun r1 G1 H locs hw1 hP hS => ?_)
  have hF : ∀ k, 91 < k → G1 k = G k := fun k hk => hw1.2.1 k (by omega)
  refine lv_aload_n hx hb dL_law_740 rfl (lv_at hl 1 rfl) ?_
  refine l_arg 1 h hS hl hi dL_law_741 dL_law_742 dL_law_743 dL_law_744 dL_law_745 (by decide) (by decide) rfl ?_
  refine l_arg 2 h hS hl hi dL_law_746 dL_law_747 dL_law_748 dL_law_749 dL_law_750 (by decide) (by decide) rfl ?_
  refine z_Vi C0 hP hD hA hS (As := [.int (xs (i + 1)), .int (xs (i + 2))]) (rest := [.int r1]) (k := 92) (c_X12_drink l E G1 (G 93) n na (xs (i + 1)) (xs (i + 2)) (hF 93 (by omega)) hrn hrna hn10 hna) (cwV 2 hts (zgV (fun _ h => h) mlRL_84 imX12_drink seX12_drink iniRX12 coX12_drink) rfl rfl rfl (by decide +kernel) ⟨Nat.le_of_ble_eq_true rfl, Nat.le_of_ble_eq_true rfl⟩) (zk_lt (rfl : zk 92 = 10) (by decide)) (zd_10 E (rfl : zk 92 = 10) _) rfl rfl rfl hl.1 rfl (Nat.le_of_ble_eq_true rfl) dL_law_751 ⟨Nat.le_refl _, Nat.le_refl _⟩ (fun r2 G2 H locs hw2 hP hS => ?_)
  obtain ⟨e1, hG2⟩ := zLaw_q hG hw1 hw2 rfl
  exact lv_icmp_eq (tgt := 1325) hx hb dL_law_754 (by decide) (fun _ => kk G2 H locs hG2 hP hS) (fun q => absurd e1 q)
set_option maxHeartbeats 4000000 in
theorem l_case_17 (h : lH p s m meth c E b L xs) (hG : zLaw G) (hP : zP E G H) (hS : va_S (lA s) s.heap H locs) (hi : i + 6 ≤ L) (hl : lv_has ls 4 (lv4 i b E))
    (kk : ∀ (G2 : zG) (H2 : Heap) (locs2 : List Loc), zLaw G2 → zP E G2 H2 → va_S (lA s) s.heap H2 locs2 → W p l e room_1 s m #[Value.ref b] below meth c H2 locs2 600000 7302250 Q (F0 m 1325 ls [])) : W p l e room_1 s m #[Value.ref b] below meth c H locs 600000 7302250 Q (F0 m 759 ls []) := by
  obtain ⟨C0, hX, hbl, hD, hL⟩ := id h
  have hA : ∀ q, s.heap.size ≤ q → lA s q := fun q h => h
  have hx := C0.1
  have hb := C0.2.1
  have hts := C0.2.2.2.2.1
  obtain ⟨⟨n, na, hw, hR⟩, hp, h47, h02, him, ⟨K, hK96, k2, k3⟩, h44, ⟨mm, hm12, m2, m3⟩, h46⟩ := id hG
  obtain ⟨hrn, hrna, hn10, hna, hV⟩ := id hw
  have hkd := zKd_V hV.1
  refine lv_aload_n hx hb dL_law_759 rfl (lv_at hl 2 rfl) ?_
  refine l_arg 1 h hS hl hi dL_law_760 dL_law_761 dL_law_762 dL_law_763 dL_law_764 (by decide) (by decide) rfl ?_
  refine l_arg 2 h hS hl hi dL_law_765 dL_law_766 dL_law_767 dL_law_768 dL_law_769 (by decide) (by decide) rfl ?_
  refine z_Vi C0 hP hD hA hS (As := [.int (xs (i + 1)), .int (xs (i + 2))]) (rest := []) (k := 0) (c_X11_train l E G (G 93) n na (xs (i + 1)) (xs (i + 2)) hR hn10 hna hp hkd) (cwV 2 hts (zgV (fun _ h => h) mlRL_85 imX11_train seX11_train iniRX11 coX11_train) rfl rfl rfl (by decide +kernel) ⟨Nat.le_of_ble_eq_true rfl, Nat.le_of_ble_eq_true rfl⟩) (zk_lt (rfl : zk 0 = 9) (by decide)) (zd_9 E (rfl : zk 0 = 9) _) rfl rfl rfl hl.1 rfl (Nat.le_of_ble_eq_true rfl) dL_law_770 ⟨Nat.le_refl _, Nat.le_refl _⟩ (fun r1 G1 H locs hw1 hP hS => ?_)
  have hF : ∀ k, 91 < k → G1 k = G k := fun k hk => hw1.2.1 k (by omega)
  refine lv_aload_n hx hb dL_law_773 rfl (lv_at hl 1 rfl) ?_
  refine l_arg 1 h hS hl hi dL_law_774 dL_law_775 dL_law_776 dL_law_777 dL_law_778 (by decide) (by decide) rfl ?_
  refine l_arg 2 h hS hl hi dL_law_779 dL_law_780 dL_law_781 dL_law_782 dL_law_783 (by decide) (by decide) rfl ?_
  refine z_Vi C0 hP hD hA hS (As := [.int (xs (i + 1)), .int (xs (i + 2))]) (rest := [.int r1]) (k := 92) (c_X12_train l E G1 (G 93) n na (xs (i + 1)) (xs (i + 2)) (hF 93 (by omega)) hrn hrna hn10 hna) (cwV 2 hts (zgV (fun _ h => h) mlRL_88 imX12_train seX12_train iniRX12 coX12_train) rfl rfl rfl (by decide +kernel) ⟨Nat.le_of_ble_eq_true rfl, Nat.le_of_ble_eq_true rfl⟩) (zk_lt (rfl : zk 92 = 10) (by decide)) (zd_10 E (rfl : zk 92 = 10) _) rfl rfl rfl hl.1 rfl (Nat.le_of_ble_eq_true rfl) dL_law_784 ⟨Nat.le_refl _, Nat.le_refl _⟩ (fun r2 G2 H locs hw2 hP hS => ?_)
  obtain ⟨e1, hG2⟩ := zLaw_q hG hw1 hw2 rfl
  exact lv_icmp_eq (tgt := 1325) hx hb dL_law_787 (by decide) (fun _ => kk G2 H locs hG2 hP hS) (fun q => absurd e1 q)
set_option maxHeartbeats 4000000 in
theorem l_case_18 (h : lH p s m meth c E b L xs) (hG : zLaw G) (hP : zP E G H) (hS : va_S (lA s) s.heap H locs) (hi : i + 6 ≤ L) (hl : lv_has ls 4 (lv4 i b E))
    (kk : ∀ (G2 : zG) (H2 : Heap) (locs2 : List Loc), zLaw G2 → zP E G2 H2 → va_S (lA s) s.heap H2 locs2 → W p l e room_1 s m #[Value.ref b] below meth c H2 locs2 600000 7302250 Q (F0 m 1325 ls [])) : W p l e room_1 s m #[Value.ref b] below meth c H locs 600000 7302250 Q (F0 m 792 ls []) := by
  obtain ⟨C0, hX, hbl, hD, hL⟩ := id h
  have hA : ∀ q, s.heap.size ≤ q → lA s q := fun q h => h
  have hx := C0.1
  have hb := C0.2.1
  have hts := C0.2.2.2.2.1
  obtain ⟨⟨n, na, hw, hR⟩, hp, h47, h02, him, ⟨K, hK96, k2, k3⟩, h44, ⟨mm, hm12, m2, m3⟩, h46⟩ := id hG
  obtain ⟨hrn, hrna, hn10, hna, hV⟩ := id hw
  have hkd := zKd_V hV.1
  refine lv_aload_n hx hb dL_law_792 rfl (lv_at hl 2 rfl) ?_
  refine l_arg 1 h hS hl hi dL_law_793 dL_law_794 dL_law_795 dL_law_796 dL_law_797 (by decide) (by decide) rfl ?_
  refine z_Vi C0 hP hD hA hS (As := [.int (xs (i + 1))]) (rest := []) (k := 0) (c_X11_weakest l E G (G 93) n na (xs (i + 1)) hR hn10 hna hp hkd) (cwV 1 hts (zgV (fun _ h => h) mlRL_89 imX11_weakest seX11_weakest iniRX11 coX11_weakest) rfl rfl rfl (by decide +kernel) ⟨Nat.le_of_ble_eq_true rfl, Nat.le_of_ble_eq_true rfl⟩) (zk_lt (rfl : zk 0 = 9) (by decide)) (zd_9 E (rfl : zk 0 = 9) _) rfl rfl rfl hl.1 rfl (Nat.le_of_ble_eq_true rfl) dL_law_798 ⟨Nat.le_refl _, Nat.le_refl _⟩ (fun r1 G1 H locs hw1 hP hS => ?_)
  have hF : ∀ k, 91 < k → G1 k = G k := fun k hk => hw1.2.1 k (by omega)
  refine lv_aload_n hx hb dL_law_801 rfl (lv_at hl 1 rfl) ?_
  refine l_arg 1 h hS hl hi dL_law_802 dL_law_803 dL_law_804 dL_law_805 dL_law_806 (by decide) (by decide) rfl ?_
  refine z_Vi C0 hP hD hA hS (As := [.int (xs (i + 1))]) (rest := [.int r1]) (k := 92) (c_X12_weakest l E G1 (G 93) n na (xs (i + 1)) (hF 93 (by omega)) hrn hrna hn10 hna) (cwV 1 hts (zgV (fun _ h => h) mlRL_92 imX12_weakest seX12_weakest iniRX12 coX12_weakest) rfl rfl rfl (by decide +kernel) ⟨Nat.le_of_ble_eq_true rfl, Nat.le_of_ble_eq_true rfl⟩) (zk_lt (rfl : zk 92 = 10) (by decide)) (zd_10 E (rfl : zk 92 = 10) _) rfl rfl rfl hl.1 rfl (Nat.le_of_ble_eq_true rfl) dL_law_807 ⟨Nat.le_refl _, Nat.le_refl _⟩ (fun r2 G2 H locs hw2 hP hS => ?_)
  obtain ⟨e1, hG2⟩ := zLaw_q hG hw1 hw2 rfl
  exact lv_icmp_eq (tgt := 1325) hx hb dL_law_810 (by decide) (fun _ => kk G2 H locs hG2 hP hS) (fun q => absurd e1 q)
set_option maxHeartbeats 4000000 in
theorem l_case_19 (h : lH p s m meth c E b L xs) (hG : zLaw G) (hP : zP E G H) (hS : va_S (lA s) s.heap H locs) (hi : i + 6 ≤ L) (hl : lv_has ls 4 (lv4 i b E))
    (kk : ∀ (G2 : zG) (H2 : Heap) (locs2 : List Loc), zLaw G2 → zP E G2 H2 → va_S (lA s) s.heap H2 locs2 → W p l e room_1 s m #[Value.ref b] below meth c H2 locs2 600000 7302250 Q (F0 m 1325 ls [])) : W p l e room_1 s m #[Value.ref b] below meth c H locs 600000 7302250 Q (F0 m 815 ls []) := by
  obtain ⟨C0, hX, hbl, hD, hL⟩ := id h
  have hA : ∀ q, s.heap.size ≤ q → lA s q := fun q h => h
  have hx := C0.1
  have hb := C0.2.1
  have hts := C0.2.2.2.2.1
  obtain ⟨⟨n, na, hw, hR⟩, hp, h47, h02, him, ⟨K, hK96, k2, k3⟩, h44, ⟨mm, hm12, m2, m3⟩, h46⟩ := id hG
  obtain ⟨hrn, hrna, hn10, hna, hV⟩ := id hw
  have hkd := zKd_V hV.1
  refine lv_aload_n hx hb dL_law_815 rfl (lv_at hl 2 rfl) ?_
  refine l_arg 1 h hS hl hi dL_law_816 dL_law_817 dL_law_818 dL_law_819 dL_law_820 (by decide) (by decide) rfl ?_
  refine l_arg 2 h hS hl hi dL_law_821 dL_law_822 dL_law_823 dL_law_824 dL_law_825 (by decide) (by decide) rfl ?_
  refine z_Vi C0 hP hD hA hS (As := [.int (xs (i + 1)), .int (xs (i + 2))]) (rest := []) (k := 0) (c_X11_meadow l E G (G 93) n na (xs (i + 1)) (xs (i + 2)) hR hn10 hna hp hkd) (cwV 2 hts (zgV (fun _ h => h) mlRL_93 imX11_meadow seX11_meadow iniRX11 coX11_meadow) rfl rfl rfl (by decide +kernel) ⟨Nat.le_of_ble_eq_true rfl, Nat.le_of_ble_eq_true rfl⟩) (zk_lt (rfl : zk 0 = 9) (by decide)) (zd_9 E (rfl : zk 0 = 9) _) rfl rfl rfl hl.1 rfl (Nat.le_of_ble_eq_true rfl) dL_law_826 ⟨Nat.le_refl _, Nat.le_refl _⟩ (fun r1 G1 H locs hw1 hP hS => ?_)
  have hF : ∀ k, 91 < k → G1 k = G k := fun k hk => hw1.2.1 k (by omega)
  refine lv_aload_n hx hb dL_law_829 rfl (lv_at hl 1 rfl) ?_
  refine l_arg 1 h hS hl hi dL_law_830 dL_law_831 dL_law_832 dL_law_833 dL_law_834 (by decide) (by decide) rfl ?_
  refine l_arg 2 h hS hl hi dL_law_835 dL_law_836 dL_law_837 dL_law_838 dL_law_839 (by decide) (by decide) rfl ?_
  refine z_Vi C0 hP hD hA hS (As := [.int (xs (i + 1)), .int (xs (i + 2))]) (rest := [.int r1]) (k := 92) (c_X12_meadow l E G1 (G 93) n na (xs (i + 1)) (xs (i + 2)) (hF 93 (by omega)) hrn hrna hn10 hna) (cwV 2 hts (zgV (fun _ h => h) mlRL_96 imX12_meadow seX12_meadow iniRX12 coX12_meadow) rfl rfl rfl (by decide +kernel) ⟨Nat.le_of_ble_eq_true rfl, Nat.le_of_ble_eq_true rfl⟩) (zk_lt (rfl : zk 92 = 10) (by decide)) (zd_10 E (rfl : zk 92 = 10) _) rfl rfl rfl hl.1 rfl (Nat.le_of_ble_eq_true rfl) dL_law_840 ⟨Nat.le_refl _, Nat.le_refl _⟩ (fun r2 G2 H locs hw2 hP hS => ?_)
  obtain ⟨e1, hG2⟩ := zLaw_q hG hw1 hw2 rfl
  exact lv_icmp_eq (tgt := 1325) hx hb dL_law_843 (by decide) (fun _ => kk G2 H locs hG2 hP hS) (fun q => absurd e1 q)
set_option maxHeartbeats 4000000 in
theorem l_case_20 (h : lH p s m meth c E b L xs) (hG : zLaw G) (hP : zP E G H) (hS : va_S (lA s) s.heap H locs) (hi : i + 6 ≤ L) (hl : lv_has ls 4 (lv4 i b E))
    (kk : ∀ (G2 : zG) (H2 : Heap) (locs2 : List Loc), zLaw G2 → zP E G2 H2 → va_S (lA s) s.heap H2 locs2 → W p l e room_1 s m #[Value.ref b] below meth c H2 locs2 600000 7302250 Q (F0 m 1325 ls [])) : W p l e room_1 s m #[Value.ref b] below meth c H locs 600000 7302250 Q (F0 m 848 ls []) := by
  obtain ⟨C0, hX, hbl, hD, hL⟩ := id h
  have hA : ∀ q, s.heap.size ≤ q → lA s q := fun q h => h
  have hx := C0.1
  have hb := C0.2.1
  have hts := C0.2.2.2.2.1
  obtain ⟨⟨n, na, hw, hR⟩, hp, h47, h02, him, ⟨K, hK96, k2, k3⟩, h44, ⟨mm, hm12, m2, m3⟩, h46⟩ := id hG
  obtain ⟨hrn, hrna, hn10, hna, hV⟩ := id hw
  have hkd := zKd_V hV.1
  refine lv_aload_n hx hb dL_law_848 rfl (lv_at hl 2 rfl) ?_
  refine l_arg 1 h hS hl hi dL_law_849 dL_law_850 dL_law_851 dL_law_852 dL_law_853 (by decide) (by decide) rfl ?_
  refine l_arg 2 h hS hl hi dL_law_854 dL_law_855 dL_law_856 dL_law_857 dL_law_858 (by decide) (by decide) rfl ?_
  refine z_Vi C0 hP hD hA hS (As := [.int (xs (i + 1)), .int (xs (i + 2))]) (rest := []) (k := 0) (c_X11_leave l E G (G 93) n na (xs (i + 1)) (xs (i + 2)) hR hn10 hna hp hkd hV) (cwV 2 hts (zgV (fun _ h => h) mlRL_97 imX11_leave seX11_leave iniRX11 coX11_leave) rfl rfl rfl (by decide +kernel) ⟨Nat.le_of_ble_eq_true rfl, Nat.le_of_ble_eq_true rfl⟩) (zk_lt (rfl : zk 0 = 9) (by decide)) (zd_9 E (rfl : zk 0 = 9) _) rfl rfl rfl hl.1 rfl (Nat.le_of_ble_eq_true rfl) dL_law_859 ⟨Nat.le_refl _, Nat.le_refl _⟩ (fun r1 G1 H locs hw1 hP hS => ?_)
  have hF : ∀ k, 91 < k → G1 k = G k := fun k hk => hw1.2.1 k (by omega)
  refine lv_aload_n hx hb dL_law_862 rfl (lv_at hl 1 rfl) ?_
  refine l_arg 1 h hS hl hi dL_law_863 dL_law_864 dL_law_865 dL_law_866 dL_law_867 (by decide) (by decide) rfl ?_
  refine l_arg 2 h hS hl hi dL_law_868 dL_law_869 dL_law_870 dL_law_871 dL_law_872 (by decide) (by decide) rfl ?_
  refine z_Vi C0 hP hD hA hS (As := [.int (xs (i + 1)), .int (xs (i + 2))]) (rest := [.int r1]) (k := 92) (c_X12_leave l E G1 (G 93) n na (xs (i + 1)) (xs (i + 2)) (hF 93 (by omega)) hrn hrna hn10 hna hkd hV) (cwV 2 hts (zgV (fun _ h => h) mlRL_100 imX12_leave seX12_leave iniRX12 coX12_leave) rfl rfl rfl (by decide +kernel) ⟨Nat.le_of_ble_eq_true rfl, Nat.le_of_ble_eq_true rfl⟩) (zk_lt (rfl : zk 92 = 10) (by decide)) (zd_10 E (rfl : zk 92 = 10) _) rfl rfl rfl hl.1 rfl (Nat.le_of_ble_eq_true rfl) dL_law_873 ⟨Nat.le_refl _, Nat.le_refl _⟩ (fun r2 G2 H locs hw2 hP hS => ?_)
  obtain ⟨e1, hG2⟩ := zLaw_q hG hw1 hw2 rfl
  exact lv_icmp_eq (tgt := 1325) hx hb dL_law_876 (by decide) (fun _ => kk G2 H locs hG2 hP hS) (fun q => absurd e1 q)
set_option maxHeartbeats 4000000 in
theorem l_case_21 (h : lH p s m meth c E b L xs) (hG : zLaw G) (hP : zP E G H) (hS : va_S (lA s) s.heap H locs) (hi : i + 6 ≤ L) (hl : lv_has ls 4 (lv4 i b E))
    (kk : ∀ (G2 : zG) (H2 : Heap) (locs2 : List Loc), zLaw G2 → zP E G2 H2 → va_S (lA s) s.heap H2 locs2 → W p l e room_1 s m #[Value.ref b] below meth c H2 locs2 600000 7302250 Q (F0 m 1325 ls [])) : W p l e room_1 s m #[Value.ref b] below meth c H locs 600000 7302250 Q (F0 m 881 ls []) := by
  obtain ⟨C0, hX, hbl, hD, hL⟩ := id h
  have hA : ∀ q, s.heap.size ≤ q → lA s q := fun q h => h
  have hx := C0.1
  have hb := C0.2.1
  have hts := C0.2.2.2.2.1
  obtain ⟨⟨n, na, hw, hR⟩, hp, h47, h02, him, ⟨K, hK96, k2, k3⟩, h44, ⟨mm, hm12, m2, m3⟩, h46⟩ := id hG
  obtain ⟨hrn, hrna, hn10, hna, hV⟩ := id hw
  have hkd := zKd_V hV.1
  refine lv_aload_n hx hb dL_law_881 rfl (lv_at hl 2 rfl) ?_
  refine l_arg 1 h hS hl hi dL_law_882 dL_law_883 dL_law_884 dL_law_885 dL_law_886 (by decide) (by decide) rfl ?_
  refine z_Vi C0 hP hD hA hS (As := [.int (xs (i + 1))]) (rest := []) (k := 0) (c_X11_order l E G (G 93) n na (xs (i + 1)) hR hn10 hna hp hkd) (cwV 1 hts (zgV (fun _ h => h) mlRL_101 imX11_order seX11_order iniRX11 coX11_order) rfl rfl rfl (by decide +kernel) ⟨Nat.le_of_ble_eq_true rfl, Nat.le_of_ble_eq_true rfl⟩) (zk_lt (rfl : zk 0 = 9) (by decide)) (zd_9 E (rfl : zk 0 = 9) _) rfl rfl rfl hl.1 rfl (Nat.le_of_ble_eq_true rfl) dL_law_887 ⟨Nat.le_refl _, Nat.le_refl _⟩ (fun r1 G1 H locs hw1 hP hS => ?_)
  have hF : ∀ k, 91 < k → G1 k = G k := fun k hk => hw1.2.1 k (by omega)
  refine lv_aload_n hx hb dL_law_890 rfl (lv_at hl 1 rfl) ?_
  refine l_arg 1 h hS hl hi dL_law_891 dL_law_892 dL_law_893 dL_law_894 dL_law_895 (by decide) (by decide) rfl ?_
  refine z_Vi C0 hP hD hA hS (As := [.int (xs (i + 1))]) (rest := [.int r1]) (k := 92) (c_X12_order l E G1 (G 93) n na (xs (i + 1)) (hF 93 (by omega)) hrn hrna hn10 hna) (cwV 1 hts (zgV (fun _ h => h) mlRL_104 imX12_order seX12_order iniRX12 coX12_order) rfl rfl rfl (by decide +kernel) ⟨Nat.le_of_ble_eq_true rfl, Nat.le_of_ble_eq_true rfl⟩) (zk_lt (rfl : zk 92 = 10) (by decide)) (zd_10 E (rfl : zk 92 = 10) _) rfl rfl rfl hl.1 rfl (Nat.le_of_ble_eq_true rfl) dL_law_896 ⟨Nat.le_refl _, Nat.le_refl _⟩ (fun r2 G2 H locs hw2 hP hS => ?_)
  obtain ⟨e1, hG2⟩ := zLaw_q hG hw1 hw2 rfl
  exact lv_icmp_eq (tgt := 1325) hx hb dL_law_899 (by decide) (fun _ => kk G2 H locs hG2 hP hS) (fun q => absurd e1 q)
set_option maxHeartbeats 4000000 in
theorem l_case_22 (h : lH p s m meth c E b L xs) (hG : zLaw G) (hP : zP E G H) (hS : va_S (lA s) s.heap H locs) (hi : i + 6 ≤ L) (hl : lv_has ls 4 (lv4 i b E))
    (kk : ∀ (G2 : zG) (H2 : Heap) (locs2 : List Loc), zLaw G2 → zP E G2 H2 → va_S (lA s) s.heap H2 locs2 → W p l e room_1 s m #[Value.ref b] below meth c H2 locs2 600000 7302250 Q (F0 m 1325 ls [])) : W p l e room_1 s m #[Value.ref b] below meth c H locs 600000 7302250 Q (F0 m 904 ls []) := by
  obtain ⟨C0, hX, hbl, hD, hL⟩ := id h
  have hA : ∀ q, s.heap.size ≤ q → lA s q := fun q h => h
  have hx := C0.1
  have hb := C0.2.1
  have hts := C0.2.2.2.2.1
  obtain ⟨⟨n, na, hw, hR⟩, hp, h47, h02, him, ⟨K, hK96, k2, k3⟩, h44, ⟨mm, hm12, m2, m3⟩, h46⟩ := id hG
  obtain ⟨hrn, hrna, hn10, hna, hV⟩ := id hw
  have hkd := zKd_V hV.1
  refine lv_aload_n hx hb dL_law_904 rfl (lv_at hl 2 rfl) ?_
  refine l_arg 1 h hS hl hi dL_law_905 dL_law_906 dL_law_907 dL_law_908 dL_law_909 (by decide) (by decide) rfl ?_
  refine l_arg 2 h hS hl hi dL_law_910 dL_law_911 dL_law_912 dL_law_913 dL_law_914 (by decide) (by decide) rfl ?_
  refine l_arg 3 h hS hl hi dL_law_915 dL_law_916 dL_law_917 dL_law_918 dL_law_919 (by decide) (by decide) rfl ?_
  refine l_arg 4 h hS hl hi dL_law_920 dL_law_921 dL_law_922 dL_law_923 dL_law_924 (by decide) (by decide) rfl ?_
  refine l_arg 5 h hS hl hi dL_law_925 dL_law_926 dL_law_927 dL_law_928 dL_law_929 (by decide) (by decide) rfl ?_
  refine z_Vl C0 hP hD hA hS (As := [.int (xs (i + 1)), .int (xs (i + 2)), .int (xs (i + 3)), .int (xs (i + 4)), .int (xs (i + 5))]) (rest := []) (k := 0) (c_X11_puncture l E G (G 93) n na (xs (i + 1)) (xs (i + 2)) (xs (i + 3)) (xs (i + 4)) (xs (i + 5)) hR hn10 hna hp hkd hV) (cwV 5 hts (zgV (fun _ h => h) mlRL_105 imX11_puncture seX11_puncture iniRX11 coX11_puncture) rfl rfl rfl (by decide +kernel) ⟨Nat.le_of_ble_eq_true rfl, Nat.le_of_ble_eq_true rfl⟩) (zk_lt (rfl : zk 0 = 9) (by decide)) (zd_9 E (rfl : zk 0 = 9) _) rfl rfl rfl hl.1 rfl (Nat.le_of_ble_eq_true rfl) dL_law_930 ⟨Nat.le_refl _, Nat.le_refl _⟩ (fun r1 G1 H locs hw1 hP hS => ?_)
  have hF : ∀ k, 91 < k → G1 k = G k := fun k hk => hw1.2.1 k (by omega)
  refine lv_aload_n hx hb dL_law_933 rfl (lv_at hl 1 rfl) ?_
  refine l_arg 1 h hS hl hi dL_law_934 dL_law_935 dL_law_936 dL_law_937 dL_law_938 (by decide) (by decide) rfl ?_
  refine l_arg 2 h hS hl hi dL_law_939 dL_law_940 dL_law_941 dL_law_942 dL_law_943 (by decide) (by decide) rfl ?_
  refine l_arg 3 h hS hl hi dL_law_944 dL_law_945 dL_law_946 dL_law_947 dL_law_948 (by decide) (by decide) rfl ?_
  refine l_arg 4 h hS hl hi dL_law_949 dL_law_950 dL_law_951 dL_law_952 dL_law_953 (by decide) (by decide) rfl ?_
  refine l_arg 5 h hS hl hi dL_law_954 dL_law_955 dL_law_956 dL_law_957 dL_law_958 (by decide) (by decide) rfl ?_
  refine z_Vl C0 hP hD hA hS (As := [.int (xs (i + 1)), .int (xs (i + 2)), .int (xs (i + 3)), .int (xs (i + 4)), .int (xs (i + 5))]) (rest := [.long r1]) (k := 92) (c_X12_puncture l E G1 (G 93) n na (xs (i + 1)) (xs (i + 2)) (xs (i + 3)) (xs (i + 4)) (xs (i + 5)) (hF 93 (by omega)) hrn hrna hn10 hna hV) (cwV 5 hts (zgV (fun _ h => h) mlRL_109 imX12_puncture seX12_puncture iniRX12 coX12_puncture) rfl rfl rfl (by decide +kernel) ⟨Nat.le_of_ble_eq_true rfl, Nat.le_of_ble_eq_true rfl⟩) (zk_lt (rfl : zk 92 = 10) (by decide)) (zd_10 E (rfl : zk 92 = 10) _) rfl rfl rfl hl.1 rfl (Nat.le_of_ble_eq_true rfl) dL_law_959 ⟨Nat.le_refl _, Nat.le_refl _⟩ (fun r2 G2 H locs hw2 hP hS => ?_)
  obtain ⟨e1, hG2⟩ := zLaw_l hG hw1 hw2 rfl
  subst e1
  refine W.lcmp hx hb dL_law_962 ?_
  exact lv_if_eq (tgt := 1325) hx hb dL_law_963 (by decide) (fun _ => kk G2 H locs hG2 hP hS) (fun q => absurd ((lg_cmp_eq _ _).mpr rfl) q)
set_option maxHeartbeats 4000000 in
theorem l_case_23 (h : lH p s m meth c E b L xs) (hG : zLaw G) (hP : zP E G H) (hS : va_S (lA s) s.heap H locs) (hi : i + 6 ≤ L) (hl : lv_has ls 4 (lv4 i b E))
    (kk : ∀ (G2 : zG) (H2 : Heap) (locs2 : List Loc), zLaw G2 → zP E G2 H2 → va_S (lA s) s.heap H2 locs2 → W p l e room_1 s m #[Value.ref b] below meth c H2 locs2 600000 7302250 Q (F0 m 1325 ls [])) : W p l e room_1 s m #[Value.ref b] below meth c H locs 600000 7302250 Q (F0 m 968 ls []) := by
  obtain ⟨C0, hX, hbl, hD, hL⟩ := id h
  have hA : ∀ q, s.heap.size ≤ q → lA s q := fun q h => h
  have hx := C0.1
  have hb := C0.2.1
  have hts := C0.2.2.2.2.1
  obtain ⟨⟨n, na, hw, hR⟩, hp, h47, h02, him, ⟨K, hK96, k2, k3⟩, h44, ⟨mm, hm12, m2, m3⟩, h46⟩ := id hG
  obtain ⟨hrn, hrna, hn10, hna, hV⟩ := id hw
  have hkd := zKd_V hV.1
  refine lv_aload_n hx hb dL_law_968 rfl (lv_at hl 2 rfl) ?_
  refine l_arg 1 h hS hl hi dL_law_969 dL_law_970 dL_law_971 dL_law_972 dL_law_973 (by decide) (by decide) rfl ?_
  refine l_arg 2 h hS hl hi dL_law_974 dL_law_975 dL_law_976 dL_law_977 dL_law_978 (by decide) (by decide) rfl ?_
  refine l_arg 3 h hS hl hi dL_law_979 dL_law_980 dL_law_981 dL_law_982 dL_law_983 (by decide) (by decide) rfl ?_
  refine l_arg 4 h hS hl hi dL_law_984 dL_law_985 dL_law_986 dL_law_987 dL_law_988 (by decide) (by decide) rfl ?_
  refine z_Vl C0 hP hD hA hS (As := [.int (xs (i + 1)), .int (xs (i + 2)), .int (xs (i + 3)), .int (xs (i + 4))]) (rest := []) (k := 0) (c_X11_mean l E G (G 93) n na (xs (i + 1)) (xs (i + 2)) (xs (i + 3)) (xs (i + 4)) hR hn10 hna hp hkd hV) (cwV 4 hts (zgV (fun _ h => h) mlRL_110 imX11_mean seX11_mean iniRX11 coX11_mean) rfl rfl rfl (by decide +kernel) ⟨Nat.le_of_ble_eq_true rfl, Nat.le_of_ble_eq_true rfl⟩) (zk_lt (rfl : zk 0 = 9) (by decide)) (zd_9 E (rfl : zk 0 = 9) _) rfl rfl rfl hl.1 rfl (Nat.le_of_ble_eq_true rfl) dL_law_989 ⟨Nat.le_refl _, Nat.le_refl _⟩ (fun r1 G1 H locs hw1 hP hS => ?_)
  have hF : ∀ k, 91 < k → G1 k = G k := fun k hk => hw1.2.1 k (by omega)
  refine lv_aload_n hx hb dL_law_992 rfl (lv_at hl 1 rfl) ?_
  refine l_arg 1 h hS hl hi dL_law_993 dL_law_994 dL_law_995 dL_law_996 dL_law_997 (by decide) (by decide) rfl ?_
  refine l_arg 2 h hS hl hi dL_law_998 dL_law_999 dL_law_1000 dL_law_1001 dL_law_1002 (by decide) (by decide) rfl ?_
  refine l_arg 3 h hS hl hi dL_law_1003 dL_law_1004 dL_law_1005 dL_law_1006 dL_law_1007 (by decide) (by decide) rfl ?_
  refine l_arg 4 h hS hl hi dL_law_1008 dL_law_1009 dL_law_1010 dL_law_1011 dL_law_1012 (by decide) (by decide) rfl ?_
  refine z_Vl C0 hP hD hA hS (As := [.int (xs (i + 1)), .int (xs (i + 2)), .int (xs (i + 3)), .int (xs (i + 4))]) (rest := [.long r1]) (k := 92) (c_X12_mean l E G1 (G 93) n na (xs (i + 1)) (xs (i + 2)) (xs (i + 3)) (xs (i + 4)) (hF 93 (by omega)) hrn hrna hn10 hna hV) (cwV 4 hts (zgV (fun _ h => h) mlRL_114 imX12_mean seX12_mean iniRX12 coX12_mean) rfl rfl rfl (by decide +kernel) ⟨Nat.le_of_ble_eq_true rfl, Nat.le_of_ble_eq_true rfl⟩) (zk_lt (rfl : zk 92 = 10) (by decide)) (zd_10 E (rfl : zk 92 = 10) _) rfl rfl rfl hl.1 rfl (Nat.le_of_ble_eq_true rfl) dL_law_1013 ⟨Nat.le_refl _, Nat.le_refl _⟩ (fun r2 G2 H locs hw2 hP hS => ?_)
  obtain ⟨e1, hG2⟩ := zLaw_l hG hw1 hw2 rfl
  subst e1
  refine W.lcmp hx hb dL_law_1016 ?_
  exact lv_if_eq (tgt := 1325) hx hb dL_law_1017 (by decide) (fun _ => kk G2 H locs hG2 hP hS) (fun q => absurd ((lg_cmp_eq _ _).mpr rfl) q)
end LAW
