section ZN
variable {p : Program} {l : Launch} {e : Env} {R : Room} {s : State} {m : MethodId} {args : Array Value} {below : List Frame} {meth : Method} {c : Code} {H : Heap} {locs : List Loc} {cells slots : Nat} {Q : State → Prop}
variable {cc : ByteArray} {pc : Nat} {ls : Array Slot} {rest : List Value} {E2 : zE2} {A : Nat → Prop} {H0 : Heap} {ws : va_W} {Ts : List Cond} {own : String} {nL : Nat}
theorem zn_newq (hx : p.tables.exec = Jvm.exec) (hb : c.code = cc) {index : Nat} (hown : s.vm.findClass own = some m.cls) (hcl : (Cond.classLink own index "WetSuitPedalsShoes$Athlete").before args s = true) (hX : zX s) (hK : va_K E2.2 vwCl (zt E2) s) (hP : va_P E2.2 vwCl ws H) (hD : va_D A ws) (hS : va_S A H0 H locs) (hA : ∀ q, H0.size ≤ q → A q) (hcells : cells + 1 ≤ R.cells) (hslots : slots + 5 ≤ R.slots) (hdg : decode cc pc = .ok (.anewarray index, 3))
    (kk : ∀ (q : Nat) (H1 : Heap), va_P E2.2 vwCl (ws ++ [(q, .inl (E2.1.2.1, 5, .inr (.inr (.inr (.inr (fun _ => none))))))]) H1 → va_D A (ws ++ [(q, .inl (E2.1.2.1, 5, .inr (.inr (.inr (.inr (fun _ => none))))))]) → va_S A H0 H1 locs → W p l e R s m args below meth c H1 locs (cells + 1) (slots + 5) Q (F0 m (pc + 3) ls (.ref q :: rest))) : W p l e R s m args below meth c H locs cells slots Q (F0 m pc ls (.int 5 :: rest)) := by
  refine va_newq hx hb hown hcl hX.2.1 hK hP hD hS hA (n := 5) (N' := 5) (by decide) (by decide) (by decide) hcells hslots hdg (fun q cA H1 hK1 hP1 hD1 hS1 => ?_)
  have e : cA = E2.1.2.1 := by
    obtain ⟨_, _, _, _, _, h1⟩ := (hK1.2 3 (cA, .object "WetSuitPedalsShoes$Athlete") rfl).2
    obtain ⟨_, _, _, _, _, h0⟩ := (hK.2 1 (E2.1.2.1, .object "WetSuitPedalsShoes$Athlete") rfl).2
    exact Option.some.inj (h1.symm.trans h0)
  subst e
  exact kk q H1 hP1 hD1 hS1
theorem zn_astq (hx : p.tables.exec = Jvm.exec) (hb : c.code = cc) (hK : va_K E2.2 vwCl (zt E2) s) (hP : va_P E2.2 vwCl ws H) (hD : va_D A ws) (hS : va_S A H0 H locs) (q0 qk i : Nat) {a v N : Nat} {vs : List Value} {f : Nat → Option Nat} (ha : ws[q0]? = some (a, .inl (E2.1.2.1, N, .inr (.inr (.inr (.inr f)))))) (hv : ws[qk]? = some (v, .inr (0, vs))) {x : Int32} (hxi : x = nI i) (hi : i < N) (hN : N < 2 ^ 31) (hdg : decode cc pc = .ok (.aastore, 1))
    (kk : ∀ (H1 : Heap) (locs1 : List Loc), va_P E2.2 vwCl (ws.set q0 (a, .inl (E2.1.2.1, N, .inr (.inr (.inr (.inr (va_up f i (some v)))))))) H1 → va_D A (ws.set q0 (a, .inl (E2.1.2.1, N, .inr (.inr (.inr (.inr (va_up f i (some v)))))))) → va_S A H0 H1 locs1 → W p l e R s m args below meth c H1 locs1 cells slots Q (F0 m (pc + 1) ls rest)) : W p l e R s m args below meth c H locs cells slots Q (F0 m pc ls (.ref v :: .int x :: .ref a :: rest)) := by
  subst hxi
  refine va_astq hx hb hK hP hD hS q0 1 qk 0 ha rfl hv rfl (vp_in_nI hi hN) hdg (fun H1 locs1 h1 h2 h3 => ?_)
  rw [nI_clamp (by omega)] at h1 h2
  exact kk H1 locs1 h1 h2 h3
end ZN
