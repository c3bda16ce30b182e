/-! 'new int[11][100]' in one instruction: the outer cell, then its rows one behind the other -/
abbrev zmO (c : ClassId) (h i : Nat) : Cell := arrV c 11 (fun j => va_rf (if j < i then some (h + 1 + j) else none))
abbrev zmI (c : ClassId) : Cell := arrV c 100 (fun _ => .int 0)
/-- the state when i rows are made -/
def zmT (T : State) (cA cI : ClassId) : Nat → State
  | 0 => T.pushCell (zmO cA T.heap.size 0)
  | i + 1 => ((zmT T cA cI i).pushCell (zmI cI)).setCell T.heap.size (zmO cA T.heap.size (i + 1))
theorem zmO_set (c : ClassId) (h i : Nat) : (zmO c h i).setSlot i (.ref (h + 1 + i)) = zmO c h (i + 1) := by
  show (arrV c 11 _).setSlot i _ = _
  rw [arrV_store]
  refine congrArg (arrV c 11) (funext fun j => ?_)
  unfold updV
  by_cases e : j = i
  · subst e
    rw [if_pos rfl, if_pos (Nat.lt_succ_self j)]
    rfl
  · rw [if_neg e]
    dsimp only
    by_cases h1 : j < i
    · rw [if_pos h1, if_pos (by omega)]
    · rw [if_neg h1, if_neg (by omega)]
theorem zmT_at (T : State) (cA cI : ClassId) : ∀ i : Nat, (zmT T cA cI i).heap.size = T.heap.size + 1 + i ∧ (zmT T cA cI i).heap[T.heap.size]? = some (zmO cA T.heap.size i) ∧ (zmT T cA cI i).vm = T.vm ∧ (zmT T cA cI i).slotsUsed = T.slotsUsed + 11 + i * 100
    ∧ (∀ x : Nat, x < T.heap.size → (zmT T cA cI i).heap[x]? = T.heap[x]?) ∧ ∀ j : Nat, j < i → (zmT T cA cI i).heap[T.heap.size + 1 + j]? = some (zmI cI)
  | 0 => by
    refine ⟨?_, State.heap_pushCell_size _ _, rfl, ?_, fun x hx => State.heap_pushCell_of_lt _ _ hx, fun j h => absurd h (Nat.not_lt_zero j)⟩
    · show (T.heap.push _).size = _
      rw [Array.size_push]
    · show T.slotsUsed + (zmO cA T.heap.size 0).slots.size = _
      rw [arrV_size]
  | i + 1 => by
    obtain ⟨a, b, d, u, o, n⟩ := zmT_at T cA cI i
    have lt : T.heap.size < (zmT T cA cI i).heap.size := by omega
    have hb : ((zmT T cA cI i).pushCell (zmI cI)).heap[T.heap.size]? = some (zmO cA T.heap.size i) := (State.heap_pushCell_of_lt _ _ lt).trans b
    refine ⟨?_, State.heap_setCell_self hb, d, ?_, fun x hx => ?_, fun j hj => ?_⟩
    · show (((zmT T cA cI i).heap.push _).setIfInBounds _ _).size = _
      rw [Array.size_setIfInBounds, Array.size_push, a]
      omega
    · show (zmT T cA cI i).slotsUsed + (zmI cI).slots.size = _
      rw [arrV_size, u]
      omega
    · refine (State.heap_setCell_other (show T.heap.size ≠ x by omega)).trans ?_
      exact (State.heap_pushCell_of_lt _ _ (show x < (zmT T cA cI i).heap.size by omega)).trans (o x hx)
    · refine (State.heap_setCell_other (show T.heap.size ≠ T.heap.size + 1 + j by omega)).trans ?_
      by_cases e : j < i
      · exact (State.heap_pushCell_of_lt _ _ (show T.heap.size + 1 + j < (zmT T cA cI i).heap.size by omega)).trans (n j e)
      · rw [show T.heap.size + 1 + j = (zmT T cA cI i).heap.size by omega]
        exact State.heap_pushCell_size _ _
theorem zmT_top (T : State) (f : JFrame) (cA cI : ClassId) : ∀ i : Nat, zmT (T.setTop f) cA cI i = (zmT T cA cI i).setTop f
  | 0 => rfl
  | i + 1 => by
    show ((zmT (T.setTop f) cA cI i).pushCell _).setCell _ _ = _
    rw [zmT_top T f cA cI i]
    rfl
section ZMW
variable {E : CtlPost} {e : Env} {d : Bool} {acts : List Action} {T : State}
theorem zm_make1 {cI cc : ClassId} {kI : Class} {k : Int32} (hk : ¬ k < 0) (hN : k.toNatClampNeg = 100) (h1 : T.vm.classes[cI]? = some kI) (h2 : kI.kind = .array cc .int) (hl : e.platform.arrayLengthLimit = 2147483645) (hh : e.platform.maxHeapBytes = 536870912) (hc : T.heap.size < e.platform.maxCells) (hs : T.slotsUsed + 100 ≤ e.platform.maxSlots) {Q : Addr → Pre} (hq : ∀ acts', Q T.heap.size d acts' (T.pushCell (zmI cI))) : wp (multianewarray.make cI [k]) Q E e d acts T := by
  rw [multianewarray.make]
  simp only [wp_bind', W.ite, hk, if_false, wp_pure', W.theClass, h1, h2, Option.some.injEq, exists_eq_left', hN]
  refine W.newArray_of h1 h2 (by rw [hl]; decide) (by rw [hh]; decide) hc hs rfl (fun acts' => ?_)
  rw [arrV_new]
  exact hq acts'
theorem zm_make {cA cI cc : ClassId} {kA kI : Class} {n k : Int32} (hn : ¬ n < 0) (hn0 : (n == 0) = false) (hN : n.toNatClampNeg = 11) (hk : ¬ k < 0) (hK : k.toNatClampNeg = 100) (h1 : T.vm.classes[cA]? = some kA) (h2 : kA.kind = .array cI (.array .int)) (h3 : T.vm.classes[cI]? = some kI) (h4 : kI.kind = .array cc .int) (hl : e.platform.arrayLengthLimit = 2147483645) (hh : e.platform.maxHeapBytes = 536870912)
    (hc : T.heap.size + 12 ≤ e.platform.maxCells) (hs : T.slotsUsed + 1111 ≤ e.platform.maxSlots) {Q : Addr → Pre} (hq : ∀ d' acts', Q T.heap.size d' acts' (zmT T cA cI 11)) : wp (multianewarray.make cA [n, k]) Q E e d acts T := by
  rw [multianewarray.make]
  simp only [wp_bind', W.ite, hn, if_false, wp_pure', W.theClass, h1, h2, Option.some.injEq, exists_eq_left', hN]
  refine W.newArray_of h1 h2 (by rw [hl]; decide) (by rw [hh]; decide) (by omega) (by omega) rfl (fun acts' => ?_)
  rw [arrV_new]
  simp only [hn0, Bool.false_eq_true, if_false]
  rw [wp_bind', Std.Legacy.Range.forIn_eq_forIn_range']
  show wp (forIn (List.range' 0 11 1) PUnit.unit _) _ E e d acts' _
  refine wp_forIn_inv (fun rest U => ∃ i : Nat, i ≤ 11 ∧ rest = List.range' i (11 - i) ∧ U = zmT T cA cI i) _ _ ⟨0, Nat.zero_le _, rfl, rfl⟩ ?_ ?_
  · rintro x rest U d' acts2 Q' ⟨i, hi, hr, rfl⟩ hnext
    have lt : i < 11 := by
      rcases Nat.lt_or_ge i 11 with z | z
      · exact z
      · rw [show 11 - i = 0 by omega] at hr
        cases hr
    rw [show 11 - i = (11 - (i + 1)) + 1 by omega, List.range'_succ] at hr
    obtain ⟨rfl, hr2⟩ := List.cons.inj hr
    obtain ⟨a, b, v, u, o, q⟩ := zmT_at T cA cI x
    simp only [wp_bind']
    refine zm_make1 hk hK (by rw [v]; exact h3) h4 hl hh (by omega) (by omega) (fun acts3 => ?_)
    simp only [wp_bind', W.writeLoc, wp_pure']
    refine ⟨zmO cA T.heap.size x, (State.heap_pushCell_of_lt _ _ (show T.heap.size < (zmT T cA cI x).heap.size by omega)).trans b, by simp [zmO, arrV], by rw [arrV_size]; exact lt, ?_, hnext _ _ _ ⟨x + 1, lt, hr2, ?_⟩⟩
    · show State.fitsSlot _ cA .none x _ = true
      simp [State.fitsSlot, State.slotType?, v, h1, h2, fits]
    · rw [a, zmO_set]
      rfl
  · rintro U d' acts2 ⟨i, hi, hr, rfl⟩
    have e11 : i = 11 := by
      rcases Nat.lt_or_ge i 11 with z | z
      · rw [show 11 - i = (11 - (i + 1)) + 1 by omega, List.range'_succ] at hr
        cases hr
      · omega
    subst e11
    simp only [wp_pure']
    exact hq _ _
end ZMW
section ZMS
variable {p : Program} {l : Launch} {e : Env} {R : Room} {s : State} {m : MethodId} {args : Array Value} {below : List Frame} {meth : Method} {c : Code} {T : State} {locs : List Loc} {cells slots : Nat}
theorem zmT_stand (X : Stand p l e R s m args below meth c T locs cells slots) (cA cI : ClassId) : ∀ i : Nat, Stand p l e R s m args below meth c (zmT T cA cI i) locs (cells + 1 + i) (slots + 11 + i * 100)
  | 0 => by
    have h := X.pushed (zmO cA T.heap.size 0)
    rw [arrV_size] at h
    rw [Nat.zero_mul]
    exact h
  | i + 1 => by
    have Xi := zmT_stand X cA cI i
    obtain ⟨a, b, v, u, o, q⟩ := zmT_at T cA cI i
    have hb : ((zmT T cA cI i).pushCell (zmI cI)).heap[T.heap.size]? = some (zmO cA T.heap.size i) := (State.heap_pushCell_of_lt _ _ (show T.heap.size < (zmT T cA cI i).heap.size by omega)).trans b
    have h := ((Xi.pushed (zmI cI)).stored hb i (.ref (T.heap.size + 1 + i))).dropFresh (fun x hx => by
      rw [List.mem_singleton] at hx
      subst hx
      exact X.heapGrown)
    rw [zmO_set, arrV_size] at h
    rw [Nat.succ_mul, ← Nat.add_assoc]
    exact h
theorem zm_step (X : Stand p l e R s m args below meth c T locs cells slots) (hx : p.tables.exec = Jvm.exec) {own : String} {index : Nat} (hown : s.vm.findClass own = some m.cls) (hcl : (Cond.classLink own index ("[" ++ (FieldType.array .int).toString)).before args s = true) (ho : (Cond.arrayOver (.array .int)).before args s = true) (hai : (Cond.arrayClass .int).before args s = true) {g : JFrame} (hg : g.method = m) (hdg : decode c.code g.pc = .ok (.multianewarray index 2, 4)) {n k : Int32} {rest : List Value} (hst : g.stack = .int k :: .int n :: rest) (hn : ¬ n < 0) (hn0 : (n == 0) = false) (hN : n.toNatClampNeg = 11) (hk : ¬ k < 0) (hK : k.toNatClampNeg = 100) (hcells : cells + 12 ≤ R.cells) (hslots : slots + 1111 ≤ R.slots) :
    ∃ (vm1 : Vm) (cA cI : ClassId), s.vm.findClass ("[" ++ (FieldType.array .int).toString) = some cA ∧ s.vm.findClass (FieldType.array .int).toString = some cI ∧ Stand p l e R s m args below meth c (zmT (T.setVm vm1) cA cI 11) locs (cells + 12) (slots + 1111)
      ∧ ∀ target, Steps p.tables e below ((zmT (T.setVm vm1) cA cI 11).setTop { g with pc := g.pc + 4, stack := .ref T.heap.size :: rest }) target → Steps p.tables e below (T.setTop g) target := by
  subst hg
  have hpl : e.platform.magicAccessors = ({} : Platform).magicAccessors := by rw [X.admits.platform]
  obtain ⟨cI, cA, kA, fI, -, hkA, hkindA, fA⟩ := arrayOverA_spec ho
  obtain ⟨cI2, kI, cc, fI2, hkI, hkindI⟩ := Cond.arrayClass_spec hai
  have e1 : cI2 = cI := Option.some.inj (fI2.symm.trans fI)
  subst e1
  obtain ⟨c0, f0, hlk⟩ := Cond.classLink_spec hown hcl e.platform hpl
  have e2 : cA = c0 := Option.some.inj (fA.symm.trans f0)
  subst e2
  obtain ⟨hg1, hw1, hr1⟩ := State.classEntry (e := e) X.warmed hlk
  generalize T.vm.noted g.method.cls index (.cls cA) = vm1 at hg1 hw1 hr1
  have hal : s.vm.Alike vm1 := hw1.alike
  obtain ⟨kA1, hkA1, eA⟩ := hal.2.2 _ _ hkA
  obtain ⟨kI1, hkI1, eI⟩ := hal.2.2 _ _ hkI
  have XF := zmT_stand (X.noted hw1) cA cI2 11
  obtain ⟨r1, r2⟩ := X.roomAbove hcells hslots
  refine ⟨vm1, cA, cI2, fA, fI, XF, fun target hrest => ?_⟩
  jvm_step X.here [hx, hdg]
  simp only [multianewarray.sem, wp_bind', W.resolveClassAt_links (State.method?_setTop g X.here.top) hg1]
  rw [W.popN, if_neg (by decide)]
  refine ⟨g, State.topJava?_setTop' (s := T.setVm vm1) g X.here.top, [.int n, .int k], rest, rfl, hst, ?_⟩
  simp only [List.mapM_cons, List.mapM_nil, wp_bind', wp_pure']
  refine zm_make (T := ((T.setTop g).setVm vm1).setTop { g with stack := rest }) (kA := kA1) (kI := kI1) (cI := cI2) (cc := cc) hn hn0 hN hk hK hkA1 (by rw [eA]; exact hkindA) hkI1 (by rw [eI]; exact hkindI) (Launch.admits_arrayLengthLimit X.admits) (Launch.admits_maxHeapBytes X.admits) r1 r2 (fun d' acts' => ?_)
  have eS : ((T.setTop g).setVm vm1).setTop { g with stack := rest } = (T.setVm vm1).setTop { g with stack := rest } := by
    show ((T.setVm vm1).setTop g).setTop _ = _
    rw [State.setTop_setTop]
  rw [eS, zmT_top]
  simp only [wp_bind', W.mark, W.pushRef, State.topJava?_setTop' _ XF.here.top, Option.some.injEq, exists_eq_left', State.setTop_setTop, State.heap_setTop]
  intro acts
  simp [jvm, XF.here.top]
  exact hrest
end ZMS
section ZN
variable {p : Program} {l : Launch} {e : Env} {R : Room} {s : State} {m : MethodId} {args : Array Value} {below : List Frame} {meth : Method} {c : Code} {H : Heap} {locs : List Loc} {cells slots : Nat} {Q : State → Prop}
variable {cc : ByteArray} {pc : Nat} {ls : Array Slot} {rest : List Value} {D : va_G} {cl : List vw_C} {A : Nat → Prop} {H0 : Heap} {ws : va_W}
/-- the rows behind the outer cell q -/
def zmR (cI : ClassId) (q : Nat) : va_W := (List.range 11).map (fun j => (q + 1 + j, .inl (cI, 100, .inl (fun _ => 0))))
theorem zm_mna (hx : p.tables.exec = Jvm.exec) (hb : c.code = cc) {own : String} {index : Nat} {cA cI : ClassId} (fA : s.vm.findClass ("[" ++ (FieldType.array .int).toString) = some cA) (fI : s.vm.findClass (FieldType.array .int).toString = some cI) (hown : s.vm.findClass own = some m.cls) (hcl : (Cond.classLink own index ("[" ++ (FieldType.array .int).toString)).before args s = true) (ho : (Cond.arrayOver (.array .int)).before args s = true) (hai : (Cond.arrayClass .int).before args s = true) (hP : va_P D cl ws H) (hD : va_D A ws) (hS : va_S A H0 H locs) (hA : ∀ q, H0.size ≤ q → A q)
    {n k : Int32} (hn : n = 11) (hk : k = 100) (hcells : cells + 12 ≤ R.cells) (hslots : slots + 1111 ≤ R.slots) (hdg : decode cc pc = .ok (.multianewarray index 2, 4))
    (kk : ∀ (q : Nat) (H1 : Heap), va_P D cl ((ws ++ [(q, .inl (cA, 11, .inr (.inr (.inr (.inr (fun i => if i < 11 then some (q + 1 + i) else none))))))]) ++ zmR cI q) H1 → va_D A ((ws ++ [(q, .inl (cA, 11, .inr (.inr (.inr (.inr (fun i => if i < 11 then some (q + 1 + i) else none))))))]) ++ zmR cI q) → va_S A H0 H1 locs → W p l e R s m args below meth c H1 locs (cells + 12) (slots + 1111) Q (F0 m (pc + 4) ls (.ref q :: rest))) : W p l e R s m args below meth c H locs cells slots Q (F0 m pc ls (.int k :: .int n :: rest)) := by
  subst hn
  subst hk
  intro T hT X
  subst hT
  subst hb
  obtain ⟨vm1, cA2, cI2, gA, gI, XF, step⟩ := zm_step (g := F0 m pc ls (.int 100 :: .int 11 :: rest)) X hx hown hcl ho hai rfl hdg rfl (by decide) (by decide) (by decide) (by decide) (by decide) hcells hslots
  have e1 : cA2 = cA := Option.some.inj (gA.symm.trans fA)
  have e2 : cI2 = cI := Option.some.inj (gI.symm.trans fI)
  subst e1
  subst e2
  obtain ⟨a, b, v, u, o, q⟩ := zmT_at (T.setVm vm1) cA2 cI2 11
  have a : (zmT (T.setVm vm1) cA2 cI2 11).heap.size = T.heap.size + 1 + 11 := a
  have b : (zmT (T.setVm vm1) cA2 cI2 11).heap[T.heap.size]? = some (zmO cA2 T.heap.size 11) := b
  have o : ∀ x : Nat, x < T.heap.size → (zmT (T.setVm vm1) cA2 cI2 11).heap[x]? = T.heap[x]? := o
  have q : ∀ j : Nat, j < 11 → (zmT (T.setVm vm1) cA2 cI2 11).heap[T.heap.size + 1 + j]? = some (zmI cI2) := q
  have hr : ∀ (j : Nat) (x : Nat × va_E), (zmR cI2 T.heap.size)[j]? = some x → j < 11 ∧ x = (T.heap.size + 1 + j, .inl (cI2, 100, .inl (fun _ => 0))) := fun j x hx => by
    unfold zmR at hx
    rw [List.getElem?_map] at hx
    by_cases h9 : j < 11
    · rw [List.getElem?_range h9] at hx
      exact ⟨h9, (Option.some.inj hx).symm⟩
    · rw [List.getElem?_eq_none (by rw [List.length_range]; omega)] at hx
      cases hx
  have ho1 : ∀ (j : Nat) (x : Nat × va_E), [(T.heap.size, (.inl (cA2, 11, .inr (.inr (.inr (.inr (fun i => if i < 11 then some (T.heap.size + 1 + i) else none))))) : va_E))][j]? = some x → x = (T.heap.size, .inl (cA2, 11, .inr (.inr (.inr (.inr (fun i => if i < 11 then some (T.heap.size + 1 + i) else none)))))) := fun j x hx => by
    have h0 : j < 1 := (List.getElem?_eq_some_iff.mp hx).1
    rw [show j = 0 by omega] at hx
    exact (Option.some.inj hx).symm
  have hP1 := ((hP.kept (fun j x hx => o x.1 ((hP j x hx).lt))).app (w2 := [(T.heap.size, (.inl (cA2, 11, .inr (.inr (.inr (.inr (fun i => if i < 11 then some (T.heap.size + 1 + i) else none))))) : va_E))]) (fun j x hx => by
    rw [ho1 j x hx]
    exact b)).app (w2 := zmR cI2 T.heap.size) (fun j x hx => by
    obtain ⟨h1, rfl⟩ := hr j x hx
    exact q j h1)
  have hD0 := hD.push (e := (.inl (cA2, 11, .inr (.inr (.inr (.inr (fun i => if i < 11 then some (T.heap.size + 1 + i) else none))))) : va_E)) hP rfl (hA _ hS.1)
  have hD1 := hD0.app (w2 := zmR cI2 T.heap.size) ⟨fun i j x y hi hj e => by
    obtain ⟨-, rfl⟩ := hr i x hi
    obtain ⟨-, rfl⟩ := hr j y hj
    have e : T.heap.size + 1 + i = T.heap.size + 1 + j := e
    omega, fun j x hx => by
    obtain ⟨-, rfl⟩ := hr j x hx
    exact hA _ (by have := hS.1; show _ ≤ T.heap.size + 1 + j; omega)⟩ (fun i j x y hi hj e => by
    obtain ⟨-, rfl⟩ := hr j y hj
    have e : x.1 = T.heap.size + 1 + j := e
    by_cases h1 : i < ws.length
    · rw [List.getElem?_append_left h1] at hi
      have := (hP i x hi).lt
      omega
    · rw [List.getElem?_append_right (by omega)] at hi
      have := ho1 _ x hi
      rw [this] at e
      have e : T.heap.size = T.heap.size + 1 + j := e
      omega)
  obtain ⟨t, a1, b1⟩ := kk T.heap.size (zmT (T.setVm vm1) cA2 cI2 11).heap hP1 hD1 ⟨by rw [a]; have := hS.1; omega, fun x h1 h2 => (o x (Nat.lt_of_lt_of_le h1 hS.1)).trans (hS.2.1 x h1 h2), hS.2.2⟩ _ rfl XF
  exact ⟨t, step t a1, b1⟩
end ZN
