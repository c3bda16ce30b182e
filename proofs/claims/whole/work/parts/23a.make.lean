/-! what is made: the rows at the start, and the worlds of the constructors -/
def g0 : zG := fun k => match k with
  | 48 => fun j => if j = 2 then -9 else 0
  | 59 => fun j => if j = 2 then -9 else 0
  | 70 => fun j => if j = 7 then 1 else 0
  | 93 => fun j => if 52 ≤ j ∧ j < 102 then 1 else 0
  | _ => fun _ => 0
abbrev zE2 : Type := (ClassId × ClassId × ClassId) × va_G
def zS (E2 : zE2) (k n : Nat) (f : Nat → Nat) : va_W := (List.range n).map (fun j => (f j, zd (fun i => f (i - k), E2) (k + j) (g0 (k + j))))
abbrev zt (E2 : zE2) : List (ClassId × FieldType) := [(E2.1.1, .int), (E2.1.2.1, .object "WetSuitPedalsShoes$Athlete"), (E2.1.2.2, .array .int)]
def zXw : List (String × Nat × MethodName) := [(RX3, 11, yX1_init), (RX3, 28, yX0_init), (RX11, 25, yX9_init), (RX11, 32, yX8_init), (RX11, 43, yX10_init), (RX10, 11, yX1_init), (RX10, 20, yX0_init), (RX11, 53, yX7_init), (RX11, 60, yX2_init), (RX11, 67, yX5_init)]
/-- what the makers lean on besides: links between nest mates, and classes of arrays -/
def zX (U : State) : Prop := (∀ q ∈ zXw, va_Nw (.methodLinkNest q.1 q.2.1 q.2.2 "WetSuitPedalsShoes") U) ∧ va_AO "WetSuitPedalsShoes$Athlete" U ∧ (Cond.arrayOver (.array .int)).before #[] U = true
theorem zX.moved {s U : State} (hW : s.WarmedH U.vm) (h : zX s) : zX U := ⟨fun q hq => va_Nw.warmM hW (h.1 q hq), h.2.1.moved hW.alike, over_moved hW.alike h.2.2⟩
theorem zX.calling {U : State} (h : zX U) (g : JFrame) (mk : MethodId) (a : Array Value) : zX (U.calling g mk a) := ⟨fun q hq => va_Nw.same rfl rfl (h.1 q hq), va_AO.moved (u := U) (U := U.calling g mk a) (Vm.Alike.refl U.vm) h.2.1, over_moved (u := U) (E := U.calling g mk a) (Vm.Alike.refl U.vm) h.2.2⟩
/-- a constructor's contract -/
def zI (l : Launch) (y : MethodName) (ws : List Cond) (rm : Room) (ci : Nat) (fs0 : List Value) (k n mc ms : Nat) : Prop := ∀ (E2 : zE2) (h0 sz : Nat),
  Met l y ws rm (va_Pc [.ref h0] (fun U => U.heap.size = sz ∧ va_P E2.2 vwCl [(h0, .inr (ci, fs0))] U.heap ∧ va_K E2.2 vwCl (zt E2) U ∧ va_D (fun _ => True) [(h0, .inr (ci, fs0))] ∧ zX U))
    (va_Qv (fun f : Nat → Nat => f 0 = h0) (fun f t => va_P E2.2 vwCl (zS E2 k n f) t.heap ∧ va_K E2.2 vwCl (zt E2) t ∧ va_D (va_A [(h0, .inr (ci, fs0))] sz) (zS E2 k n f)) (va_A [(h0, .inr (ci, fs0))] sz)) mc ms (va_A [(h0, .inr (ci, fs0))] sz)
theorem zn_last {D : va_G} {cl : List vw_C} {ws : va_W} {x : Nat × va_E} {H : Heap} (h : va_P D cl (ws ++ [x]) H) : va_P D cl [x] H := h.sub [ws.length] (by simp)
theorem zn_lastD {A : Nat → Prop} {ws : va_W} {x : Nat × va_E} (h : va_D A (ws ++ [x])) : va_D A [x] := h.sub [ws.length] (by simp [va_nd]) (by simp)
theorem zn_nd : ∀ {l : List Nat}, l.Nodup → va_nd l = true
  | [], _ => rfl
  | b :: l, h => by
    rw [List.nodup_cons] at h
    simp only [va_nd, Bool.and_eq_true, decide_eq_true_eq]
    exact ⟨h.1, zn_nd h.2⟩
theorem zn_join {A0 : Nat → Prop} {D : va_G} {cl : List vw_C} {ws w1 : va_W} {x : Nat × va_E} {H H1 : Heap} (hP : va_P D cl (ws ++ [x]) H) (hD : va_D A0 (ws ++ [x]))
    (hk : ∀ q : Nat, q < H.size → ¬ va_A [x] H.size q → H1[q]? = H[q]?) (hF : ∀ q, va_A [x] H.size q → A0 q) (hP1 : va_P D cl w1 H1) (hD1 : va_D (va_A [x] H.size) w1) : va_P D cl (ws ++ w1) H1 ∧ va_D A0 (ws ++ w1) := by
  refine va_join (wc := [x]) (wr := ws) hP hD [ws.length] (List.range ws.length) (by simp) ?_ (zn_nd List.nodup_range) ?_ hk hF hP1 hD1
  · apply List.ext_getElem?
    intro i
    by_cases hi : i < ws.length
    · rw [List.getElem?_map, List.getElem?_range hi, List.getElem?_map]
      simp [List.getElem?_append_left hi, List.getElem?_eq_getElem hi]
    · rw [List.getElem?_eq_none (by simpa using hi), List.getElem?_eq_none (by simpa using hi)]
  · intro i hi hc
    rw [List.mem_range] at hi
    simp at hc
    omega
section ZN
variable {p : Program} {l : Launch} {e : Env} {R : Room} {s : State} {m : MethodId} {args : Array Value} {below : List Frame} {meth : Method} {c : Code} {H : Heap} {locs : List Loc} {cells slots : Nat} {Q : State → Prop}
variable {cc : ByteArray} {pc : Nat} {ls : Array Slot} {rest : List Value} {E2 : zE2} {A : Nat → Prop} {H0 : Heap} {ws : va_W} {Ts : List Cond} {own : String} {nL : Nat}
theorem zn_newa (hx : p.tables.exec = Jvm.exec) (hb : c.code = cc) (harr : (Cond.arrayClass .int).before args s = true) (hK : va_K E2.2 vwCl (zt E2) s) (hP : va_P E2.2 vwCl ws H) (hD : va_D A ws) (hS : va_S A H0 H locs) (hA : ∀ q, H0.size ≤ q → A q) {n : Int32} (N : Nat) (hn : n = nI N) (hN : N ≤ 3100) (hcells : cells + 1 ≤ R.cells) (hslots : slots + N ≤ R.slots) (hdg : decode cc pc = .ok (.newarray .int, 2))
    (kk : ∀ (q : Nat) (H1 : Heap), va_P E2.2 vwCl (ws ++ [(q, .inl (E2.1.1, N, .inl (fun _ => 0)))]) H1 → va_D A (ws ++ [(q, .inl (E2.1.1, N, .inl (fun _ => 0)))]) → va_S A H0 H1 locs → W p l e R s m args below meth c H1 locs (cells + 1) (slots + N) Q (F0 m (pc + 2) ls (.ref q :: rest))) : W p l e R s m args below meth c H locs cells slots Q (F0 m pc ls (.int n :: rest)) := by
  subst hn
  refine va_newa (atype := .int) (ty := .int) (a0 := (N, .inl (fun _ => 0))) (N' := N) hx hb harr rfl hK hP hD hS hA (fun cA => rfl) (nI_pos (by omega)) (nI_clamp (by omega)) (by show N * 4 ≤ 536870912; omega) hcells hslots hdg (fun q cA H1 hK1 hP1 hD1 hS1 => ?_)
  have e : cA = E2.1.1 := by
    have h1 := (hK1.2 3 (cA, .int) rfl).2
    have h0 := (hK.2 0 (E2.1.1, .int) rfl).2
    exact Option.some.inj (h1.symm.trans h0)
  subst e
  exact kk q H1 hP1 hD1 hS1
theorem zn_I {y : MethodName} {bytes : ByteArray} {maxL mc ms index ci k n q : Nat} {wy : List Cond} {rm : Room} {fs0 : List Value} (S : CallFix p m c cc nL s args Ts own) (hM : zI l y wy rm ci fs0 k n mc ms) (cw : CallB R s args own index y bytes maxL none wy rm mc ms 0 ∧ y.name = "<init>" ∧ (Cond.instanceMethod y).before args s = true) (hK : va_K E2.2 vwCl (zt E2) s) (hX : zX s) (hP : va_P E2.2 vwCl (ws ++ [(q, .inr (ci, fs0))]) H) (hD : va_D A (ws ++ [(q, .inr (ci, fs0))])) (hS : va_S A H0 H locs) (hA : ∀ q, H0.size ≤ q → A q)
    (hls : ls.size = nL) (hW : (rest.map fun v => v.category).sum ≤ 8) (hdg : decode cc pc = .ok (.invokespecial index, 3)) (hcl : cells + mc ≤ R.cells ∧ slots + ms ≤ R.slots)
    (kk : ∀ (f : Nat → Nat) (H1 : Heap) (locs1 : List Loc), f 0 = q → va_P E2.2 vwCl (ws ++ zS E2 k n f) H1 → va_D A (ws ++ zS E2 k n f) → va_S A H0 H1 locs1 → W p l e R s m args below meth c H1 locs1 (cells + mc) (slots + ms) Q (F0 m (pc + 3) ls rest)) : W p l e R s m args below meth c H locs cells slots Q (F0 m pc ls (.ref q :: rest)) := by
  have hPc := zn_last hP
  have hDc := zn_lastD hD
  have hFc := va_free (wc := [(q, .inr (ci, fs0))]) hD hS hA [ws.length] (by simp)
  refine va_callv (va_runI (As := []) (rest := rest) S (hM E2 q H.size) cw ⟨fun a U g mk z => by obtain ⟨q0, q1, qP, qK, qD, qX⟩ := z; exact ⟨q0, q1, qP, va_K.moved (u := U) (U := U.calling g mk a) (Vm.Alike.refl U.vm) qK, qD, qX.calling g mk a⟩, fun U hU hW => ⟨rfl, by rw [hU], by rw [hU]; exact hPc, va_K.moved hW.alike hK, hDc.weaken (fun _ _ _ _ => trivial), hX.moved hW⟩⟩ rfl rfl hls rfl (lv_room hW) hdg hcl) hS (fun q _ h => hFc q h) hFc (fun f t H1 locs ht hvm h5 hB hz1 hk1 hS => ?_)
  obtain ⟨hP1, hK1, hD1⟩ := hB
  rw [ht] at hP1
  obtain ⟨hP2, hD2⟩ := zn_join hP hD hk1 hFc hP1 hD1
  exact kk f H1 locs h5 hP2 hD2 hS
theorem zn_N {y : MethodName} {host : String} {bytes : ByteArray} {maxL mc ms index ci k n q : Nat} {wy : List Cond} {rm : Room} {fs0 : List Value} (S : CallFix p m c cc nL s args Ts own) (hM : zI l y wy rm ci fs0 k n mc ms) (cw : va_CN R s args own index y host bytes maxL none wy rm mc ms 0 ∧ y.name = "<init>" ∧ (Cond.instanceMethod y).before args s = true) (hK : va_K E2.2 vwCl (zt E2) s) (hX : zX s) (hP : va_P E2.2 vwCl (ws ++ [(q, .inr (ci, fs0))]) H) (hD : va_D A (ws ++ [(q, .inr (ci, fs0))])) (hS : va_S A H0 H locs) (hA : ∀ q, H0.size ≤ q → A q)
    (hls : ls.size = nL) (hW : (rest.map fun v => v.category).sum ≤ 8) (hdg : decode cc pc = .ok (.invokespecial index, 3)) (hcl : cells + mc ≤ R.cells ∧ slots + ms ≤ R.slots)
    (kk : ∀ (f : Nat → Nat) (H1 : Heap) (locs1 : List Loc), f 0 = q → va_P E2.2 vwCl (ws ++ zS E2 k n f) H1 → va_D A (ws ++ zS E2 k n f) → va_S A H0 H1 locs1 → W p l e R s m args below meth c H1 locs1 (cells + mc) (slots + ms) Q (F0 m (pc + 3) ls rest)) : W p l e R s m args below meth c H locs cells slots Q (F0 m pc ls (.ref q :: rest)) := by
  have hPc := zn_last hP
  have hDc := zn_lastD hD
  have hFc := va_free (wc := [(q, .inr (ci, fs0))]) hD hS hA [ws.length] (by simp)
  refine va_callv (va_runIN (As := []) (rest := rest) S (hM E2 q H.size) cw ⟨fun a U g mk z => by obtain ⟨q0, q1, qP, qK, qD, qX⟩ := z; exact ⟨q0, q1, qP, va_K.moved (u := U) (U := U.calling g mk a) (Vm.Alike.refl U.vm) qK, qD, qX.calling g mk a⟩, fun U hU hW => ⟨rfl, by rw [hU], by rw [hU]; exact hPc, va_K.moved hW.alike hK, hDc.weaken (fun _ _ _ _ => trivial), hX.moved hW⟩⟩ rfl rfl hls rfl (lv_room hW) hdg hcl) hS (fun q _ h => hFc q h) hFc (fun f t H1 locs ht hvm h5 hB hz1 hk1 hS => ?_)
  obtain ⟨hP1, hK1, hD1⟩ := hB
  rw [ht] at hP1
  obtain ⟨hP2, hD2⟩ := zn_join hP hD hk1 hFc hP1 hD1
  exact kk f H1 locs h5 hP2 hD2 hS
end ZN
