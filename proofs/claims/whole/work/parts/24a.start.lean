/-! from the law's entry to its loop: the tables, and the two objects made -/
theorem insRX11 : Cond.instantiable RX11 11 ∈ zU := zU_m 64 (by decide +kernel) rfl
theorem insRX12 : Cond.instantiable RX12 21 ∈ zU := zU_m 803 (by decide +kernel) rfl
theorem clRL_7 : Cond.classLink RL 7 RX11 ∈ zU := zU_m 63 (by decide +kernel) rfl
theorem clRL_10 : Cond.classLink RL 10 RX12 ∈ zU := zU_m 802 (by decide +kernel) rfl
theorem mlRL_9 : Cond.methodLink RL 9 yX11_init ∈ zU := zU_m 65 (by decide +kernel) rfl
theorem coX11_init : Cond.code yX11_init cX11_init 1 none ∈ zU := zU_m 67 (by decide +kernel) rfl
theorem imX11_init : Cond.instanceMethod yX11_init ∈ zU := zU_m 66 (by decide +kernel) rfl
theorem mlRL_12 : Cond.methodLink RL 12 yX12_init ∈ zU := zU_m 804 (by decide +kernel) rfl
theorem coX12_init : Cond.code yX12_init cX12_init 2 none ∈ zU := zU_m 806 (by decide +kernel) rfl
theorem imX12_init : Cond.instanceMethod yX12_init ∈ zU := zU_m 805 (by decide +kernel) rfl
theorem nl_0 : Cond.methodLinkNest RX3 11 yX1_init "WetSuitPedalsShoes" ∈ lw_tbl := List.mem_of_getElem? (i := 79) (by decide +kernel)
theorem nl_1 : Cond.methodLinkNest RX3 28 yX0_init "WetSuitPedalsShoes" ∈ lw_tbl := List.mem_of_getElem? (i := 112) (by decide +kernel)
theorem nl_2 : Cond.methodLinkNest RX11 25 yX9_init "WetSuitPedalsShoes" ∈ lw_tbl := List.mem_of_getElem? (i := 147) (by decide +kernel)
theorem nl_3 : Cond.methodLinkNest RX11 32 yX8_init "WetSuitPedalsShoes" ∈ lw_tbl := List.mem_of_getElem? (i := 161) (by decide +kernel)
theorem nl_4 : Cond.methodLinkNest RX11 43 yX10_init "WetSuitPedalsShoes" ∈ lw_tbl := List.mem_of_getElem? (i := 176) (by decide +kernel)
theorem nl_5 : Cond.methodLinkNest RX10 11 yX1_init "WetSuitPedalsShoes" ∈ lw_tbl := List.mem_of_getElem? (i := 181) (by decide +kernel)
theorem nl_6 : Cond.methodLinkNest RX10 20 yX0_init "WetSuitPedalsShoes" ∈ lw_tbl := List.mem_of_getElem? (i := 183) (by decide +kernel)
theorem nl_7 : Cond.methodLinkNest RX11 53 yX7_init "WetSuitPedalsShoes" ∈ lw_tbl := List.mem_of_getElem? (i := 211) (by decide +kernel)
theorem nl_8 : Cond.methodLinkNest RX11 60 yX2_init "WetSuitPedalsShoes" ∈ lw_tbl := List.mem_of_getElem? (i := 244) (by decide +kernel)
theorem nl_9 : Cond.methodLinkNest RX11 67 yX5_init "WetSuitPedalsShoes" ∈ lw_tbl := List.mem_of_getElem? (i := 259) (by decide +kernel)
theorem nl_q : Cond.arrayOver (.object "WetSuitPedalsShoes$Athlete") ∈ lw_tbl := List.mem_of_getElem? (i := 110) (by decide +kernel)
theorem nl_r : Cond.arrayOver (.array .int) ∈ lw_tbl := List.mem_of_getElem? (i := 216) (by decide +kernel)
theorem st_X {b : Nat} {s : State} (hts : ∀ w ∈ lw_tbl, w.before #[Value.ref b] s = true) : zX s := by
  refine ⟨?_, hts _ nl_q, hts _ nl_r⟩
  unfold zXw
  exact List.forall_mem_cons.mpr ⟨hts _ nl_0, List.forall_mem_cons.mpr ⟨hts _ nl_1, List.forall_mem_cons.mpr ⟨hts _ nl_2, List.forall_mem_cons.mpr ⟨hts _ nl_3, List.forall_mem_cons.mpr ⟨hts _ nl_4, List.forall_mem_cons.mpr ⟨hts _ nl_5, List.forall_mem_cons.mpr ⟨hts _ nl_6, List.forall_mem_cons.mpr ⟨hts _ nl_7, List.forall_mem_cons.mpr ⟨hts _ nl_8, List.forall_mem_cons.mpr ⟨hts _ nl_9, fun _ h => absurd h List.not_mem_nil⟩⟩⟩⟩⟩⟩⟩⟩⟩⟩
set_option maxHeartbeats 4000000 in
theorem st_K {b : Nat} {s : State} (hts : ∀ w ∈ zU, w.before #[Value.ref b] s = true) (hX : zX s) : ∃ E2 : zE2, va_K E2.2 vwCl (zt E2) s := by
  obtain ⟨c0, i0, h0⟩ := u_known (C := RX0) (T := TX0) (N := 2) (n := 2) hts inU_0 (hts _ insRX0)
  obtain ⟨c1, i1, h1⟩ := u_known (C := RX1) (T := TX1) (N := 4) (n := 4) hts inU_1 (hts _ insRX1)
  obtain ⟨c2, i2, h2⟩ := u_known (C := RX2) (T := TX2) (N := 2) (n := 2) hts inU_2 (hts _ insRX2)
  obtain ⟨c3, i3, h3⟩ := u_known (C := RX3) (T := TX3) (N := 3) (n := 3) hts inU_3 (hts _ insRX3)
  obtain ⟨c4, i4, h4⟩ := u_known (C := RX5) (T := TX5) (N := 2) (n := 2) hts inU_5 (hts _ insRX5)
  obtain ⟨c5, i5, h5⟩ := u_known (C := RX7) (T := TX7) (N := 8) (n := 8) hts inU_7 (hts _ insRX7)
  obtain ⟨c6, i6, h6⟩ := u_known (C := RX8) (T := TX8) (N := 2) (n := 2) hts inU_8 (hts _ insRX8)
  obtain ⟨c7, i7, h7⟩ := u_known (C := RX9) (T := TX9) (N := 2) (n := 2) hts inU_9 (hts _ insRX9)
  obtain ⟨c8, i8, h8⟩ := u_known (C := RX10) (T := TX10) (N := 6) (n := 6) hts inU_10 (hts _ insRX10)
  obtain ⟨c9, i9, h9⟩ := u_known (C := RX11) (T := TX11) (N := 11) (n := 11) hts inU_11 (hts _ insRX11)
  obtain ⟨c10, i10, h10⟩ := u_known (C := RX12) (T := TX12) (N := 21) (n := 21) hts inU_12 (hts _ insRX12)
  obtain ⟨aI, kI, cI, fI, hkI, hI⟩ := Cond.arrayClass_spec (hts _ acI)
  obtain ⟨cQ, aQ, kQ, fQ, -, hkQ, hQ, nQ⟩ := Cond.arrayOver_spec hX.2.1
  obtain ⟨cR, aR, kR, fR, -, hkR, hR, nR⟩ := arrayOverA_spec hX.2.2
  refine ⟨((aI, aQ, aR), (fun k => [c0, c1, c2, c3, c4, c5, c6, c7, c8, c9, c10].getD k 0, fun k => [i0, i1, i2, i3, i4, i5, i6, i7, i8, i9, i10].getD k (fun _ => 0))), fun k q hq => ?_, fun k q hq => ?_⟩
  · match k, hq with
    | 0, hq => cases hq; exact h0
    | 1, hq => cases hq; exact h1
    | 2, hq => cases hq; exact h2
    | 3, hq => cases hq; exact h3
    | 4, hq => cases hq; exact h4
    | 5, hq => cases hq; exact h5
    | 6, hq => cases hq; exact h6
    | 7, hq => cases hq; exact h7
    | 8, hq => cases hq; exact h8
    | 9, hq => cases hq; exact h9
    | 10, hq => cases hq; exact h10
    | k + 11, hq => simp [vwCl] at hq
  · match k, hq with
    | 0, hq => cases hq; exact ⟨fun N z => ⟨(fun k h => by cases h), kI, hkI, cI, hI⟩, fI⟩
    | 1, hq => cases hq; exact ⟨fun N z => ⟨(fun k h => by cases h), kQ, hkQ, cQ, hQ⟩, kQ, cQ, hkQ, hQ, fQ, nQ⟩
    | 2, hq => cases hq; exact ⟨fun N z => ⟨(fun k h => by cases h), kR, hkR, cR, hR⟩, nR⟩
    | k + 3, hq => simp [zt] at hq
theorem st_law : zLaw g0 := by
  refine ⟨⟨0, 0, ⟨rfl, rfl, by omega, by omega, fun i hi => absurd hi (Nat.not_lt_zero i), fun a ha => absurd ha (Nat.not_lt_zero a)⟩, rfl, rfl, fun j hj => ?_, fun a ha => absurd ha (Nat.not_lt_zero a)⟩, Or.inl ⟨rfl, rfl⟩, rfl, rfl, fun h => absurd rfl h, ⟨0, by omega, rfl, rfl⟩, rfl, ⟨0, by omega, rfl, rfl⟩, rfl⟩
  have e : ∀ x, x < 52 → g0 93 x = 0 := fun x hx => if_neg (by omega)
  exact ⟨(e _ (by omega)).symm, (e _ (by omega)).symm, (e _ (by omega)).symm⟩
theorem st_in1 : ∀ j, j < 92 → j + zoff (zk (0 + 0 + j)) < 92 := by decide +kernel
theorem st_in2 : ∀ j, j < 16 → j + zoff (zk (0 + 92 + j)) < 16 := by decide +kernel
/-- the two made trees are the whole world -/
theorem st_W (E2 : zE2) (f f2 : Nat → Nat) : ∃ F : Nat → Nat, F 0 = f 0 ∧ F 92 = f2 0 ∧ zW (F, E2) g0 = zS E2 0 92 f ++ zS E2 92 16 f2 := by
  obtain ⟨F, hF⟩ : ∃ F : Nat → Nat, F = (fun k => if k < 92 then f k else f2 (k - 92)) := ⟨_, rfl⟩
  have h1 : ∀ j, j < 92 → F (0 + j) = f j := fun j hj => by
    rw [hF, Nat.zero_add]
    exact if_pos hj
  have h2 : ∀ j, j < 16 → F (92 + j) = f2 j := fun j hj => by
    rw [hF]
    dsimp only
    rw [if_neg (by omega), show 92 + j - 92 = j by omega]
  have e0 : zW (F, E2) g0 = zS E2 0 108 F := by
    unfold zW zS
    refine List.map_congr_left (fun k _ => ?_)
    rw [Nat.zero_add]
    rfl
  refine ⟨F, h1 0 (by decide), h2 0 (by decide), ?_⟩
  rw [e0, zSg_all, show 108 = 92 + 16 from rfl, zSg_app, Nat.zero_add, zS_block (E2 := E2) (t := 0) (o := 0) h1 (by decide) st_in1, zS_block (E2 := E2) (t := 0) (o := 92) h2 (by decide) st_in2]
theorem st_D {E : zE} {A : Nat → Prop} (h : va_D A (zW E g0)) : zD E A := ⟨fun i j hi hj e => h.1 i j _ _ (zW_at E g0 hi) (zW_at E g0 hj) e, fun k hk => h.2 k _ (zW_at E g0 hk)⟩
