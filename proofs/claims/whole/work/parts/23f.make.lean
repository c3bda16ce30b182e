def rI (i : Nat) : Nat → Int32 := fun j => if 52 ≤ j ∧ j < i then 1 else 0
theorem rI_0 : (fun _ => 0) = rI 52 := by
  funext j
  unfold rI
  rw [if_neg (by omega)]
theorem rI_s (i : Nat) (h : 52 ≤ i) : upd (rI i) i 1 = rI (i + 1) := by
  funext j
  by_cases c : j = i
  · subst c
    rw [pk_us]
    unfold rI
    rw [if_pos (by omega)]
  · rw [pk_un c]
    unfold rI
    by_cases d : 52 ≤ j ∧ j < i
    · rw [if_pos d, if_pos (by omega)]
    · rw [if_neg d, if_neg (by omega)]
section ZN
variable {p : Program} {l : Launch} {e : Env} {R : Room} {s : State} {m : MethodId} {args : Array Value} {below : List Frame} {meth : Method} {c : Code} {cells slots : Nat} {Q : State → Prop}
variable {E2 : zE2} {A : Nat → Prop} {H0 : Heap} {ws : va_W} {Ts : List Cond} {h0 q : Nat} {fs : List Value}
theorem i_X12_loop (hx : p.tables.exec = Jvm.exec) (hb : c.code = cX12_init) (hts : ∀ w ∈ zw yX12_init cX12_init 2 none, w.before args s = true) (hown : s.vm.findClass RX12 = some m.cls) (hK : va_K E2.2 vwCl (zt E2) s) (hfs : fs[0]? = some (.ref q)) (fl : Cond.fieldLink RX12 9 "WetSuitPedalsShoesModel" "s" "[I" ∈ zU)
    (kx : ∀ (H : Heap) (locs : List Loc) (ls : Array Slot), va_P E2.2 vwCl ((h0, .inr (10, fs)) :: (q, .inl (E2.1.1, 102, .inl (rI 102))) :: ws) H → va_D A ((h0, .inr (10, fs)) :: (q, .inl (E2.1.1, 102, .inl (rI 102))) :: ws) → va_S A H0 H locs → W p l e R s m args below meth c H locs cells slots Q (F0 m 149 ls [])) :
    ∀ (n i : Nat) (H : Heap) (locs : List Loc) (ls : Array Slot), 102 < i + n → 52 ≤ i → i ≤ 102 → va_P E2.2 vwCl ((h0, .inr (10, fs)) :: (q, .inl (E2.1.1, 102, .inl (rI i))) :: ws) H → va_D A ((h0, .inr (10, fs)) :: (q, .inl (E2.1.1, 102, .inl (rI i))) :: ws) → va_S A H0 H locs → lv_has ls 2 [(1, .int (nI i)), (0, .ref h0)] → W p l e R s m args below meth c H locs cells slots Q (F0 m 130 ls [])
  | 0, i, _, _, _, h1, _, h3, _, _, _, _ => absurd h1 (by omega)
  | n + 1, i, H, locs, ls, h1, h2, h3, hP, hD, hS, hl => by
    refine lv_iload_n hx hb dX12_init_130 rfl (lv_at hl 0 rfl) ?_
    refine lv_bipush (v := nI 102) hx hb dX12_init_131 (by decide) ?_
    refine lv_icmp_ge (tgt := 149) hx hb dX12_init_133 (by decide) (fun h9 => ?_) (fun h9 => ?_)
    · have h4 := (nI_leI (a := 102) (b := i) (by decide) (by omega)).mp h9
      have h5 : i = 102 := by omega
      subst h5
      exact kx H locs ls hP hD hS
    · have h4 : i < 102 := by
        rcases Nat.lt_or_ge i 102 with z | z
        · exact z
        · exact absurd ((nI_leI (a := 102) (b := i) (by decide) (by omega)).mpr z) h9
      refine lv_aload_n hx hb dX12_init_136 rfl (lv_at hl 1 rfl) ?_
      refine va_get hx hb hts (zmi inU_12) hown hK hP 0 rfl rfl 0 (by decide) (hts _ (zm fl)) (fun _ h9 => h9) (v := .ref q) hfs dX12_init_137 ?_
      refine lv_iload_n hx hb dX12_init_140 rfl (lv_at hl 0 rfl) ?_
      refine lv_iconst (v := (1 : Int32)) hx hb dX12_init_141 (by decide) ?_
      refine va_iast hx hb hK hP hD hS 1 0 rfl rfl (vp_in_nI h4 (by decide)) dX12_init_142 (fun H1 locs1 hP hD hS => ?_)
      rw [nI_clamp (by omega), rI_s i h2] at hP hD
      refine lv_iinc (k := 0) (v := nI (i + 1)) (lv' := [(1, .int (nI (i + 1))), (0, .ref h0)]) hx hb dX12_init_143 hl rfl (by rw [← nI_1]; rfl) (by decide) rfl (fun ls hl => ?_)
      refine lv_goto (tgt := 130) hx hb dX12_init_146 (by decide) ?_
      exact i_X12_loop hx hb hts hown hK hfs fl kx n (i + 1) H1 locs1 ls (by omega) (by omega) (by omega) hP hD hS hl
end ZN
