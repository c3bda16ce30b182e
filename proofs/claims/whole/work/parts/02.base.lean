/-! THE WORLD BY TAGS: the two objects and all that they hold are 108 cells; cell k lies at address E.1 k; what it holds of numbers is the row G k (an int array: its numbers; an object: its int fields by their slots). A method's work is a change of G. -/
abbrev zG : Type := Nat → Nat → Int32
abbrev zE : Type := (Nat → Nat) × (ClassId × ClassId × ClassId) × va_G
def zT : List (Nat × Nat) := [(9,11),
  (3,3),(1,4),(11,10),(11,10),(11,10),(12,5),(0,2),(11,4),(11,10),(0,2),(11,4),(11,10),(0,2),(11,4),(11,10),(0,2),(11,4),(11,10),(0,2),(11,4),(11,10),
  (3,3),(1,4),(11,10),(11,10),(11,10),(12,5),(0,2),(11,4),(11,10),(0,2),(11,4),(11,10),(0,2),(11,4),(11,10),(0,2),(11,4),(11,10),(0,2),(11,4),(11,10),
  (7,2),(11,96),(6,2),(11,12),(11,7),
  (8,6),(1,4),(11,10),(11,10),(11,10),(0,2),(11,4),(11,10),(11,10),(11,10),(11,10),
  (8,6),(1,4),(11,10),(11,10),(11,10),(0,2),(11,4),(11,10),(11,10),(11,10),(11,10),
  (5,8),(11,10),(11,10),(11,10),(13,11),(11,100),(11,100),(11,100),(11,100),(11,100),(11,100),(11,100),(11,100),(11,100),(11,100),(11,100),(11,3100),(11,3100),
  (2,2),(11,4),(11,4),(4,2),
  (10,21),(11,102),(11,102),(11,102),(11,102),(11,96),(11,12),(11,7),(11,10),(11,10),(11,10),(11,12),(11,10),(11,1100),(11,3100),(11,3100)]
def zk (k : Nat) : Nat := (zT.getD k (99, 0)).1
def zl (k : Nat) : Nat := (zT.getD k (99, 0)).2
theorem zk_lt {k c : Nat} (h : zk k = c) (hc : c < 99) : k < 108 := by
  rcases Nat.lt_or_ge k 108 with q | q
  · exact q
  · have : zk k = 99 := by
      unfold zk
      rw [List.getD_eq_getElem?_getD, List.getElem?_eq_none (by exact q)]
      rfl
    omega
/-- what lies in cell k, whose row is f -/
def zd (E : zE) (k : Nat) (f : Nat → Int32) : va_E := match zk k with
  | 0 => .inr (0, [.ref (E.1 (k + 1)), .ref (E.1 (k + 2))])
  | 1 => .inr (1, [.int (f 0), .ref (E.1 (k + 1)), .ref (E.1 (k + 2)), .ref (E.1 (k + 3))])
  | 2 => .inr (2, [.ref (E.1 (k + 1)), .ref (E.1 (k + 2))])
  | 3 => .inr (3, [.ref (E.1 (k + 1)), .ref (E.1 (k + 5)), .int (f 2)])
  | 4 => .inr (4, [.int (f 0), .int (f 1)])
  | 5 => .inr (5, [.int (f 0), .int (f 1), .ref (E.1 (k + 1)), .ref (E.1 (k + 2)), .ref (E.1 (k + 3)), .ref (E.1 (k + 4)), .ref (E.1 (k + 16 + (f 6).toNatClampNeg)), .ref (E.1 (k + 16 + (f 7).toNatClampNeg))])
  | 6 => .inr (6, [.int (f 0), .ref (E.1 (k + 1))])
  | 7 => .inr (7, [.int (f 0), .ref (E.1 (k + 1))])
  | 8 => .inr (8, [.ref (E.1 (k + 1)), .ref (E.1 (k + 5)), .int (f 2), .ref (E.1 (k + 8)), .ref (E.1 (k + 9)), .ref (E.1 (k + 10))])
  | 9 => .inr (9, [.ref (E.1 (k + 1)), .ref (E.1 (k + 22)), .int (f 2), .ref (E.1 (k + 43)), .ref (E.1 (k + 45)), .ref (E.1 (k + 47)), .ref (E.1 (k + 48)), .ref (E.1 (k + 59)), .ref (E.1 (k + 70)), .ref (E.1 (k + 88)), .ref (E.1 (k + 91))])
  | 10 => .inr (10, [.ref (E.1 (k + 1)), .ref (E.1 (k + 2)), .ref (E.1 (k + 3)), .ref (E.1 (k + 4)), .int (f 4), .ref (E.1 (k + 5)), .ref (E.1 (k + 6)), .ref (E.1 (k + 7)), .int (f 8), .int (f 9), .ref (E.1 (k + 8)), .ref (E.1 (k + 9)), .ref (E.1 (k + 10)), .int (f 13), .ref (E.1 (k + 11)), .int (f 15), .ref (E.1 (k + 12)), .ref (E.1 (k + 13)), .ref (E.1 (k + 14)), .ref (E.1 (k + 15)), .int (f 20)])
  | 11 => .inl (E.2.1.1, zl k, .inl f)
  | 12 => .inl (E.2.1.2.1, 5, .inr (.inr (.inr (.inr (fun i => if i < 5 then some (E.1 (k + 1 + 3 * i)) else none)))))
  | _ => .inl (E.2.1.2.2, 11, .inr (.inr (.inr (.inr (fun i => if i < 11 then some (E.1 (k + 1 + i)) else none)))))
theorem zd_0 (E : zE) {k : Nat} (h : zk k = 0) (f : Nat → Int32) : zd E k f = .inr (0, [.ref (E.1 (k + 1)), .ref (E.1 (k + 2))]) := by simp only [zd, h]
theorem zd_1 (E : zE) {k : Nat} (h : zk k = 1) (f : Nat → Int32) : zd E k f = .inr (1, [.int (f 0), .ref (E.1 (k + 1)), .ref (E.1 (k + 2)), .ref (E.1 (k + 3))]) := by simp only [zd, h]
theorem zd_2 (E : zE) {k : Nat} (h : zk k = 2) (f : Nat → Int32) : zd E k f = .inr (2, [.ref (E.1 (k + 1)), .ref (E.1 (k + 2))]) := by simp only [zd, h]
theorem zd_3 (E : zE) {k : Nat} (h : zk k = 3) (f : Nat → Int32) : zd E k f = .inr (3, [.ref (E.1 (k + 1)), .ref (E.1 (k + 5)), .int (f 2)]) := by simp only [zd, h]
theorem zd_4 (E : zE) {k : Nat} (h : zk k = 4) (f : Nat → Int32) : zd E k f = .inr (4, [.int (f 0), .int (f 1)]) := by simp only [zd, h]
theorem zd_5 (E : zE) {k : Nat} (h : zk k = 5) (f : Nat → Int32) : zd E k f = .inr (5, [.int (f 0), .int (f 1), .ref (E.1 (k + 1)), .ref (E.1 (k + 2)), .ref (E.1 (k + 3)), .ref (E.1 (k + 4)), .ref (E.1 (k + 16 + (f 6).toNatClampNeg)), .ref (E.1 (k + 16 + (f 7).toNatClampNeg))]) := by simp only [zd, h]
theorem zd_6 (E : zE) {k : Nat} (h : zk k = 6) (f : Nat → Int32) : zd E k f = .inr (6, [.int (f 0), .ref (E.1 (k + 1))]) := by simp only [zd, h]
theorem zd_7 (E : zE) {k : Nat} (h : zk k = 7) (f : Nat → Int32) : zd E k f = .inr (7, [.int (f 0), .ref (E.1 (k + 1))]) := by simp only [zd, h]
theorem zd_8 (E : zE) {k : Nat} (h : zk k = 8) (f : Nat → Int32) : zd E k f = .inr (8, [.ref (E.1 (k + 1)), .ref (E.1 (k + 5)), .int (f 2), .ref (E.1 (k + 8)), .ref (E.1 (k + 9)), .ref (E.1 (k + 10))]) := by simp only [zd, h]
theorem zd_9 (E : zE) {k : Nat} (h : zk k = 9) (f : Nat → Int32) : zd E k f = .inr (9, [.ref (E.1 (k + 1)), .ref (E.1 (k + 22)), .int (f 2), .ref (E.1 (k + 43)), .ref (E.1 (k + 45)), .ref (E.1 (k + 47)), .ref (E.1 (k + 48)), .ref (E.1 (k + 59)), .ref (E.1 (k + 70)), .ref (E.1 (k + 88)), .ref (E.1 (k + 91))]) := by simp only [zd, h]
theorem zd_10 (E : zE) {k : Nat} (h : zk k = 10) (f : Nat → Int32) : zd E k f = .inr (10, [.ref (E.1 (k + 1)), .ref (E.1 (k + 2)), .ref (E.1 (k + 3)), .ref (E.1 (k + 4)), .int (f 4), .ref (E.1 (k + 5)), .ref (E.1 (k + 6)), .ref (E.1 (k + 7)), .int (f 8), .int (f 9), .ref (E.1 (k + 8)), .ref (E.1 (k + 9)), .ref (E.1 (k + 10)), .int (f 13), .ref (E.1 (k + 11)), .int (f 15), .ref (E.1 (k + 12)), .ref (E.1 (k + 13)), .ref (E.1 (k + 14)), .ref (E.1 (k + 15)), .int (f 20)]) := by simp only [zd, h]
theorem zd_11 (E : zE) {k : Nat} (h : zk k = 11) (f : Nat → Int32) : zd E k f = .inl (E.2.1.1, zl k, .inl f) := by simp only [zd, h]
theorem zd_12 (E : zE) {k : Nat} (h : zk k = 12) (f : Nat → Int32) : zd E k f = .inl (E.2.1.2.1, 5, .inr (.inr (.inr (.inr (fun i => if i < 5 then some (E.1 (k + 1 + 3 * i)) else none))))) := by simp only [zd, h]
theorem zd_13 (E : zE) {k : Nat} (h : zk k = 13) (f : Nat → Int32) : zd E k f = .inl (E.2.1.2.2, 11, .inr (.inr (.inr (.inr (fun i => if i < 11 then some (E.1 (k + 1 + i)) else none))))) := by simp only [zd, h]
def zW (E : zE) (G : zG) : va_W := (List.range 108).map (fun k => (E.1 k, zd E k (G k)))
theorem zW_at (E : zE) (G : zG) {k : Nat} (h : k < 108) : (zW E G)[k]? = some (E.1 k, zd E k (G k)) := by
  simp [zW, List.getElem?_map, List.getElem?_range h]
theorem zW_in (E : zE) (G : zG) {k : Nat} {q : Nat × va_E} (h : (zW E G)[k]? = some q) : k < 108 ∧ q = (E.1 k, zd E k (G k)) := by
  have h1 : k < 108 := by
    have := (List.getElem?_eq_some_iff.mp h).1
    simpa [zW] using this
  exact ⟨h1, by have := (zW_at E G h1).symm.trans h; exact (Option.some.inj this).symm⟩
/-- row k becomes f -/
def g1 (G : zG) (k : Nat) (f : Nat → Int32) : zG := fun j => if j = k then f else G j
theorem g1_s (G : zG) (k : Nat) (f : Nat → Int32) : g1 G k f k = f := if_pos rfl
theorem g1_n {G : zG} {k j : Nat} {f : Nat → Int32} (h : j ≠ k) : g1 G k f j = G j := if_neg h
theorem zW_set (E : zE) (G : zG) {k : Nat} (h : k < 108) (f : Nat → Int32) : (zW E G).set k (E.1 k, zd E k f) = zW E (g1 G k f) := by
  apply List.ext_getElem?
  intro j
  by_cases hj : j < 108
  · rw [zW_at E _ hj, List.getElem?_set]
    by_cases e : k = j
    · subst e
      rw [if_pos rfl, if_pos (by simpa [zW] using h), g1_s]
    · rw [if_neg e, zW_at E _ hj, g1_n (fun q => e q.symm)]
  · rw [List.getElem?_eq_none (by simp [zW]; omega), List.getElem?_eq_none (by simp [zW]; omega)]
def zP (E : zE) (G : zG) (H : Heap) : Prop := va_P E.2.2 vwCl (zW E G) H
def zy (E : zE) : List (ClassId × FieldType) := [(E.2.1.1, .int), (E.2.1.2.1, .object "WetSuitPedalsShoes$Athlete"), (E.2.1.2.2, .array .int)]
def zK (E : zE) (U : State) : Prop := va_K E.2.2 vwCl (zy E) U
/-- the addresses are apart, and of a kind -/
def zD (E : zE) (A : Nat → Prop) : Prop := (∀ i j : Nat, i < 108 → j < 108 → E.1 i = E.1 j → i = j) ∧ ∀ k : Nat, k < 108 → A (E.1 k)
theorem zD_va {E : zE} {A : Nat → Prop} (h : zD E A) (G : zG) : va_D A (zW E G) := by
  refine ⟨fun i j p q hi hj e => ?_, fun k q hk => ?_⟩
  · obtain ⟨h1, rfl⟩ := zW_in E G hi
    obtain ⟨h2, rfl⟩ := zW_in E G hj
    exact h.1 i j h1 h2 e
  · obtain ⟨h1, rfl⟩ := zW_in E G hk
    exact h.2 k h1
def zA (E : zE) (sz : Nat) : Nat → Prop := fun q => (∃ k : Nat, k < 108 ∧ q = E.1 k) ∨ sz ≤ q
theorem zD_self {E : zE} {A : Nat → Prop} (h : zD E A) (sz : Nat) : zD E (zA E sz) := ⟨h.1, fun k hk => Or.inl ⟨k, hk, rfl⟩⟩
/-- a method's start, and its ends -/
def zPc (E : zE) (G : zG) (sz : Nat) (av : List Value) : Array Value → State → Prop := va_Pc av (fun U => U.heap.size = sz ∧ zP E G U.heap ∧ zK E U ∧ zD E (fun _ => True))
def zB (E : zE) : zG → State → Prop := fun G t => zP E G t.heap ∧ zK E t
def zMi (l : Launch) (y : MethodName) (ws : List Cond) (rm : Room) (E : zE) (G : zG) (av : List Value) (post : Int32 → zG → Prop) : Prop := ∀ sz : Nat, Met l y ws rm (zPc E G sz av) (va_Qi post (zB E) (zA E sz)) 0 0 (zA E sz)
def zMl (l : Launch) (y : MethodName) (ws : List Cond) (rm : Room) (E : zE) (G : zG) (av : List Value) (post : Int64 → zG → Prop) : Prop := ∀ sz : Nat, Met l y ws rm (zPc E G sz av) (va_Ql post (zB E) (zA E sz)) 0 0 (zA E sz)
def zMv (l : Launch) (y : MethodName) (ws : List Cond) (rm : Room) (E : zE) (G : zG) (av : List Value) (post : zG → Prop) : Prop := ∀ sz : Nat, Met l y ws rm (zPc E G sz av) (va_Qv post (zB E) (zA E sz)) 0 0 (zA E sz)
theorem zPc_blind (E : zE) (G : zG) (sz : Nat) (av : List Value) : FrameBlind (zPc E G sz av) := fun a U g mk q => by
  obtain ⟨q0, q1, qP, qK, qD⟩ := q
  exact ⟨q0, q1, qP, va_K.moved (u := U) (U := U.calling g mk a) (Vm.Alike.refl U.vm) qK, qD⟩
/-- what a method's walk leans on -/
abbrev zC (p : Program) (s : State) (m : MethodId) (args : Array Value) (meth : Method) (c : Code) (cc : ByteArray) (nL : Nat) (ret : Option FieldType) (ws : List Cond) (own : String) (E : zE) : Prop :=
  p.tables.exec = Jvm.exec ∧ c.code = cc ∧ c.maxLocals = nL ∧ s.vm.findClass own = some m.cls ∧ (∀ w ∈ ws, w.before args s = true) ∧ meth.sig.returnType = ret ∧ meth.locks = false ∧ zK E s ∧ zD E (zA E s.heap.size)
def zBody (l : Launch) (cc : ByteArray) (nL : Nat) (ret : Option FieldType) (ws : List Cond) (own : String) (rm : Room) (E : zE) (G : zG) (av : List Value) (Qc : Nat → Array Value → State → Outcome → State → Prop) : Prop :=
  ∀ (p : Program) (e : Env) (s : State) (m : MethodId) (args : Array Value) (below : List Frame) (meth : Method) (c : Code) (ls : Array Slot), zC p s m args meth c cc nL ret ws own E → zP E G s.heap → va_S (zA E s.heap.size) s.heap s.heap [] → lv_has ls nL (lv_args 0 av) →
    W p l e rm s m args below meth c s.heap [] 0 0 (MQ below (Qc s.heap.size) args s 0 0 (zA E s.heap.size)) (F0 m 0 ls [])
theorem zOf {l : Launch} {y : MethodName} {ws ws' : List Cond} {rm : Room} {E : zE} {G : zG} {av : List Value} {Qc : Nat → Array Value → State → Outcome → State → Prop} {cc : ByteArray} {nL : Nat} {ret : Option FieldType} (own : String)
    (hy : plainName y.cls = true) (hw : ws = Cond.code y cc nL ret :: ws') (ho : y.cls = own) (hn : (lg_sl av).length ≤ nL) (h : zBody l cc nL ret ws own rm E G av Qc) : ∀ sz : Nat, Met l y ws rm (zPc E G sz av) (Qc sz) 0 0 (zA E sz) := by
  intro sz
  refine Met.ofW (cc := cc) (maxL := nL) (ret := ret) hy hw ?_
  intro p e s m args below meth c s₁ B hml hv
  obtain ⟨rfl, hsz, hP, hK, hD0⟩ := hv
  subst hsz
  have hown : s.vm.findClass own = some m.cls := by rw [← ho]; exact findClass_of_methodNamed B.named
  rw [lg_entry_eq]
  exact h p e s m _ below meth c _ ⟨B.exec, B.bytes, hml, hown, atoms_spec (ws := ws) B.pre, B.returns, B.notSynchronized, hK, zD_self hD0 _⟩ hP va_S.rf (lv_entry av hn)
section ZR
variable {p : Program} {l : Launch} {e : Env} {R : Room} {s : State} {m : MethodId} {args : Array Value} {below : List Frame} {meth : Method} {c : Code} {H : Heap} {locs : List Loc} {cells slots : Nat} {Q : State → Prop}
variable {cc : ByteArray} {pc : Nat} {ls : Array Slot} {rest : List Value} {E : zE} {G : zG} {A : Nat → Prop} {H0 : Heap} {ret : Option FieldType} {ws : List Cond} {own : String} {nL : Nat}
theorem z_get (C0 : zC p s m args meth c cc nL ret ws own E) (hP : zP E G H) {ref C : String} {T : u_T} {N ci index k : Nat} {fs : List Value} (hk : k < 108) (hz : zd E k (G k) = .inr (ci, fs)) (hc : vwCl[ci]? = some (C, T, N)) (hin : ∀ w ∈ u_ws C T N, w ∈ ws) (j : Nat) (hj : j < N) (hlink : Cond.fieldLink own index ref (T j).2.1 (T j).2.2.1 ∈ ws) (hsame : (T j).1 = ref) {v : Value} (hv : fs[j]? = some v) (hdg : decode cc pc = .ok (.getfield index, 3))
    (kk : W p l e R s m args below meth c H locs cells slots Q (F0 m (pc + 3) ls (v :: rest))) : W p l e R s m args below meth c H locs cells slots Q (F0 m pc ls (.ref (E.1 k) :: rest)) :=
  va_get C0.1 C0.2.1 C0.2.2.2.2.1 hin C0.2.2.2.1 C0.2.2.2.2.2.2.2.1 hP k ((zW_at E G hk).trans (by rw [hz])) hc j hj (C0.2.2.2.2.1 _ hlink) (fun x h => by rw [← hsame]; exact h) hv hdg kk
theorem z_put (C0 : zC p s m args meth c cc nL ret ws own E) (hP : zP E G H) (hD : zD E A) (hS : va_S A H0 H locs) {ref C : String} {T : u_T} {N ci index k : Nat} {fs : List Value} {F : Nat → Int32} (hF : G k = F) (ty0 : Nat → FieldType) (hty : ∀ k, k < N → parseFieldDescriptor (T k).2.2.1 = some (ty0 k)) (hnm : ∀ a, a < N → ∀ b, b < N → a ≠ b → (T a).2.1 ≠ (T b).2.1) (hk : k < 108) (hz : zd E k F = .inr (ci, fs)) (hc : vwCl[ci]? = some (C, T, N)) (hin : ∀ w ∈ u_ws C T N, w ∈ ws) (j : Nat) (hj : j < N) (hlink : Cond.fieldLink own index ref (T j).2.1 (T j).2.2.1 ∈ ws) (hsame : (T j).1 = ref) (hfin : (T j).2.2.2 = false) {ty : FieldType} {v : Value} (hd : parseFieldDescriptor (T j).2.2.1 = some ty) (hn : narrow ty v = v) (hfit : fits ty v = true) (hl : j < fs.length) (f : Nat → Int32) (hf : zd E k f = .inr (ci, fs.set j v)) (hdg : decode cc pc = .ok (.putfield index, 3))
    (kk : ∀ (H1 : Heap) (locs1 : List Loc), zP E (g1 G k f) H1 → va_S A H0 H1 locs1 → W p l e R s m args below meth c H1 locs1 cells slots Q (F0 m (pc + 3) ls rest)) : W p l e R s m args below meth c H locs cells slots Q (F0 m pc ls (v :: .ref (E.1 k) :: rest)) :=
  va_put C0.1 C0.2.1 C0.2.2.2.2.1 hin ty0 hty hnm C0.2.2.2.1 C0.2.2.2.2.2.2.2.1 hP (zD_va hD G) hS k ((zW_at E G hk).trans (by rw [hF, hz])) hc j hj (C0.2.2.2.2.1 _ hlink) (fun x h => by rw [← hsame]; exact h) hfin hd hn hfit hl hdg
    (fun H1 locs1 h1 _ h3 => kk H1 locs1 (by unfold zP; rw [← zW_set E G hk f, hf]; exact h1) h3)
theorem z_iald (C0 : zC p s m args meth c cc nL ret ws own E) (hP : zP E G H) {k i : Nat} {x : Int32} (hk : zk k = 11) (hi : i < zl k) (hx : x = nI i) (hdg : decode cc pc = .ok (.iaload, 1)) {v : Int32} (hv : G k i = v)
    (kk : W p l e R s m args below meth c H locs cells slots Q (F0 m (pc + 1) ls (.int v :: rest))) : W p l e R s m args below meth c H locs cells slots Q (F0 m pc ls (.int x :: .ref (E.1 k) :: rest)) := by
  subst hx
  have hl : zl k < 2 ^ 31 := by
    have : ∀ j, j < 108 → zl j < 4000 := by decide +kernel
    have := this k (zk_lt hk (by decide))
    omega
  refine va_iald C0.1 C0.2.1 C0.2.2.2.2.2.2.2.1 hP k 0 ((zW_at E G (zk_lt hk (by decide))).trans (by rw [zd_11 E hk])) rfl (vp_in_nI hi hl) hdg ?_
  rw [nI_clamp (by omega), hv]
  exact kk
theorem z_iast (C0 : zC p s m args meth c cc nL ret ws own E) (hP : zP E G H) (hD : zD E A) (hS : va_S A H0 H locs) {k i : Nat} {x v : Int32} {F : Nat → Int32} (hF : G k = F) (hk : zk k = 11) (hi : i < zl k) (hx : x = nI i) (hdg : decode cc pc = .ok (.iastore, 1))
    (kk : ∀ (H1 : Heap) (locs1 : List Loc), zP E (g1 G k (upd F i v)) H1 → va_S A H0 H1 locs1 → W p l e R s m args below meth c H1 locs1 cells slots Q (F0 m (pc + 1) ls rest)) : W p l e R s m args below meth c H locs cells slots Q (F0 m pc ls (.int v :: .int x :: .ref (E.1 k) :: rest)) := by
  subst hx
  subst hF
  have hl : zl k < 2 ^ 31 := by
    have : ∀ j, j < 108 → zl j < 4000 := by decide +kernel
    have := this k (zk_lt hk (by decide))
    omega
  have hk1 := zk_lt hk (by decide)
  refine va_iast C0.1 C0.2.1 C0.2.2.2.2.2.2.2.1 hP (zD_va hD G) hS k 0 ((zW_at E G hk1).trans (by rw [zd_11 E hk])) rfl (vp_in_nI hi hl) hdg (fun H1 locs1 h1 _ h3 => kk H1 locs1 ?_ h3)
  rw [nI_clamp (by omega)] at h1
  unfold zP
  rw [← zW_set E G hk1, zd_11 E hk]
  exact h1
theorem z_aald (C0 : zC p s m args meth c cc nL ret ws own E) (hP : zP E G H) {k i : Nat} {x : Int32} (hk : zk k = 12) (hi : i < 5) (hx : x = nI i) (hdg : decode cc pc = .ok (.aaload, 1))
    (kk : ∀ a : Nat, a = k + 1 + 3 * i → W p l e R s m args below meth c H locs cells slots Q (F0 m (pc + 1) ls (.ref (E.1 a) :: rest))) : W p l e R s m args below meth c H locs cells slots Q (F0 m pc ls (.int x :: .ref (E.1 k) :: rest)) := by
  subst hx
  refine va_aldq C0.1 C0.2.1 C0.2.2.2.2.2.2.2.1 hP k 1 ((zW_at E G (zk_lt hk (by decide))).trans (by rw [zd_12 E hk])) rfl (vp_in_nI hi (by omega)) hdg ?_
  rw [nI_clamp (by omega), if_pos hi]
  exact kk _ rfl
theorem z_aald2 (C0 : zC p s m args meth c cc nL ret ws own E) (hP : zP E G H) {k i : Nat} {x : Int32} (hk : zk k = 13) (hi : i < 11) (hx : x = nI i) (hdg : decode cc pc = .ok (.aaload, 1))
    (kk : ∀ a : Nat, a = k + 1 + i → W p l e R s m args below meth c H locs cells slots Q (F0 m (pc + 1) ls (.ref (E.1 a) :: rest))) : W p l e R s m args below meth c H locs cells slots Q (F0 m pc ls (.int x :: .ref (E.1 k) :: rest)) := by
  subst hx
  have h13 := (zW_at E G (zk_lt hk (by decide))).trans (congrArg (fun z => some (E.1 k, z)) (zd_13 E hk (G k)))
  have hty : (zy E)[2]? = some (E.2.1.2.2, .array .int) := rfl
  have hlt : i < 11 := hi
  have hcell := hP k _ h13
  refine W.aald (v := .ref (E.1 (k + 1 + i))) (ty := .array .int) C0.1 C0.2.1 hcell ((C0.2.2.2.2.2.2.2.1.2 2 _ hty).1 11 (fun j => va_rf (if j < 11 then some (E.1 (k + 1 + j)) else none))) rfl (fun q => by cases q) ?_ ?_ rfl rfl hdg (kk _ rfl)
  · show ¬ (nI i < 0 ∨ (arrV _ _ _).slots.size ≤ _)
    rw [arrV_size]
    exact vp_in_nI (N := 11) hlt (by omega)
  · show (arrV _ _ _).slots[_]? = _
    rw [nI_clamp (by omega), arrV_read _ _ hlt]
    simp [va_rf, hlt]
/-- calls -/
theorem z_recv (hK : zK E s) (hP : zP E G H) {k ci : Nat} {q : vw_C} {fs : List Value} (hk : k < 108) (hz : zd E k (G k) = .inr (ci, fs)) (hc : vwCl[ci]? = some q) : ∃ cell : Cell, H[E.1 k]? = some cell ∧ cell.vm.isStatics = false ∧ s.vm.findClass q.1 = some cell.cls :=
  va_recv hK hP hc ((zW_at E G hk).trans (by rw [hz]))
variable {y : MethodName} {bytes : ByteArray} {maxL n index : Nat} {ret' : Option FieldType} {ws' : List Cond} {rm : Room} {As st0 : List Value} {C : String}
theorem z_free (hD : zD E A) (hA : ∀ q, H0.size ≤ q → A q) (hS : va_S A H0 H locs) : ∀ q, zA E H.size q → A q := by
  intro q h
  rcases h with ⟨k, hk, rfl⟩ | h
  · exact hD.2 k hk
  · exact hA q (Nat.le_trans hS.1 h)
theorem z_pre (C0 : zC p s m args meth c cc nL ret ws own E) (hP : zP E G H) (av : List Value) : ∀ U : State, U.heap = H → s.WarmedH U.vm → zPc E G H.size av av.toArray U := fun U hU hW =>
  ⟨rfl, by rw [hU], by rw [hU]; exact hP, va_K.moved hW.alike C0.2.2.2.2.2.2.2.1, ⟨C0.2.2.2.2.2.2.2.2.1, fun _ _ => trivial⟩⟩
theorem z_Vi {post : Int32 → zG → Prop} (C0 : zC p s m args meth c cc nL ret ws own E) (hP : zP E G H) (hD : zD E A) (hA : ∀ q, H0.size ≤ q → A q) (hS : va_S A H0 H locs) {k ci : Nat} {q : vw_C} {fs : List Value} (hM : zMi l y ws' rm E G (.ref (E.1 k) :: As) post) (cw : CallW R s args own C index y bytes maxL ret' ws' rm 0 0 n) (hk : k < 108) (hz : zd E k (G k) = .inr (ci, fs)) (hc : vwCl[ci]? = some q) (hq : q.1 = C)
    (hn : As.length = n) (hls : ls.size = nL) (hst : st0 = As.reverse ++ .ref (E.1 k) :: rest) (hW : (rest.map fun v => v.category).sum ≤ 8) (hdg : decode cc pc = .ok (.invokevirtual index, 3)) (hcl : cells ≤ R.cells ∧ slots ≤ R.slots)
    (kk : ∀ (r : Int32) (G1 : zG) (H1 : Heap) (locs1 : List Loc), post r G1 → zP E G1 H1 → va_S A H0 H1 locs1 → W p l e R s m args below meth c H1 locs1 cells slots Q (F0 m (pc + 3) ls (.int r :: rest))) : W p l e R s m args below meth c H locs cells slots Q (F0 m pc ls st0) := by
  subst hq
  have hK := C0.2.2.2.2.2.2.2.1
  refine va_calli (va_runV (As := As) (rest := rest) ⟨C0.1, C0.2.1, C0.2.2.1, C0.2.2.2.1, C0.2.2.2.2.1⟩ (hM H.size) cw ⟨zPc_blind _ _ _ _, z_recv hK hP hk hz hc, z_pre C0 hP _⟩ rfl hn hls hst (lv_room hW) hdg hcl) hS (fun q _ h => z_free hD hA hS q h) (z_free hD hA hS) (fun r G1 t H1 locs1 ht _ hw hB _ _ hS1 => ?_)
  exact kk r G1 H1 locs1 hw (by rw [← ht]; exact hB.1) hS1
theorem z_Vl {post : Int64 → zG → Prop} (C0 : zC p s m args meth c cc nL ret ws own E) (hP : zP E G H) (hD : zD E A) (hA : ∀ q, H0.size ≤ q → A q) (hS : va_S A H0 H locs) {k ci : Nat} {q : vw_C} {fs : List Value} (hM : zMl l y ws' rm E G (.ref (E.1 k) :: As) post) (cw : CallW R s args own C index y bytes maxL ret' ws' rm 0 0 n) (hk : k < 108) (hz : zd E k (G k) = .inr (ci, fs)) (hc : vwCl[ci]? = some q) (hq : q.1 = C)
    (hn : As.length = n) (hls : ls.size = nL) (hst : st0 = As.reverse ++ .ref (E.1 k) :: rest) (hW : (rest.map fun v => v.category).sum ≤ 8) (hdg : decode cc pc = .ok (.invokevirtual index, 3)) (hcl : cells ≤ R.cells ∧ slots ≤ R.slots)
    (kk : ∀ (r : Int64) (G1 : zG) (H1 : Heap) (locs1 : List Loc), post r G1 → zP E G1 H1 → va_S A H0 H1 locs1 → W p l e R s m args below meth c H1 locs1 cells slots Q (F0 m (pc + 3) ls (.long r :: rest))) : W p l e R s m args below meth c H locs cells slots Q (F0 m pc ls st0) := by
  subst hq
  have hK := C0.2.2.2.2.2.2.2.1
  refine va_calll (va_runV (As := As) (rest := rest) ⟨C0.1, C0.2.1, C0.2.2.1, C0.2.2.2.1, C0.2.2.2.2.1⟩ (hM H.size) cw ⟨zPc_blind _ _ _ _, z_recv hK hP hk hz hc, z_pre C0 hP _⟩ rfl hn hls hst (lv_room hW) hdg hcl) hS (fun q _ h => z_free hD hA hS q h) (z_free hD hA hS) (fun r G1 t H1 locs1 ht _ hw hB _ _ hS1 => ?_)
  exact kk r G1 H1 locs1 hw (by rw [← ht]; exact hB.1) hS1
theorem z_Vv {post : zG → Prop} (C0 : zC p s m args meth c cc nL ret ws own E) (hP : zP E G H) (hD : zD E A) (hA : ∀ q, H0.size ≤ q → A q) (hS : va_S A H0 H locs) {k ci : Nat} {q : vw_C} {fs : List Value} (hM : zMv l y ws' rm E G (.ref (E.1 k) :: As) post) (cw : CallW R s args own C index y bytes maxL ret' ws' rm 0 0 n) (hk : k < 108) (hz : zd E k (G k) = .inr (ci, fs)) (hc : vwCl[ci]? = some q) (hq : q.1 = C)
    (hn : As.length = n) (hls : ls.size = nL) (hst : st0 = As.reverse ++ .ref (E.1 k) :: rest) (hW : (rest.map fun v => v.category).sum ≤ 8) (hdg : decode cc pc = .ok (.invokevirtual index, 3)) (hcl : cells ≤ R.cells ∧ slots ≤ R.slots)
    (kk : ∀ (G1 : zG) (H1 : Heap) (locs1 : List Loc), post G1 → zP E G1 H1 → va_S A H0 H1 locs1 → W p l e R s m args below meth c H1 locs1 cells slots Q (F0 m (pc + 3) ls rest)) : W p l e R s m args below meth c H locs cells slots Q (F0 m pc ls st0) := by
  subst hq
  have hK := C0.2.2.2.2.2.2.2.1
  refine va_callv (va_runV (As := As) (rest := rest) ⟨C0.1, C0.2.1, C0.2.2.1, C0.2.2.2.1, C0.2.2.2.2.1⟩ (hM H.size) cw ⟨zPc_blind _ _ _ _, z_recv hK hP hk hz hc, z_pre C0 hP _⟩ rfl hn hls hst (lv_room hW) hdg hcl) hS (fun q _ h => z_free hD hA hS q h) (z_free hD hA hS) (fun G1 t H1 locs1 ht _ hw hB _ _ hS1 => ?_)
  exact kk G1 H1 locs1 hw (by rw [← ht]; exact hB.1) hS1
theorem z_Si {post : Int32 → zG → Prop} (C0 : zC p s m args meth c cc nL ret ws own E) (hP : zP E G H) (hD : zD E A) (hA : ∀ q, H0.size ≤ q → A q) (hS : va_S A H0 H locs) (hM : zMi l y ws' rm E G As post) (cw : CallB R s args own index y bytes maxL ret' ws' rm 0 0 n ∧ (Cond.static y).before args s = true)
    (hn : As.length = n) (hls : ls.size = nL) (hst : st0 = As.reverse ++ rest) (hW : (rest.map fun v => v.category).sum ≤ 8) (hdg : decode cc pc = .ok (.invokestatic index, 3)) (hcl : cells ≤ R.cells ∧ slots ≤ R.slots)
    (kk : ∀ (r : Int32) (G1 : zG) (H1 : Heap) (locs1 : List Loc), post r G1 → zP E G1 H1 → va_S A H0 H1 locs1 → W p l e R s m args below meth c H1 locs1 cells slots Q (F0 m (pc + 3) ls (.int r :: rest))) : W p l e R s m args below meth c H locs cells slots Q (F0 m pc ls st0) := by
  refine va_calli (va_runS (As := As) (rest := rest) ⟨C0.1, C0.2.1, C0.2.2.1, C0.2.2.2.1, C0.2.2.2.2.1⟩ (hM H.size) cw ⟨zPc_blind _ _ _ _, z_pre C0 hP _⟩ rfl hn hls hst (lv_room hW) hdg hcl) hS (fun q _ h => z_free hD hA hS q h) (z_free hD hA hS) (fun r G1 t H1 locs1 ht _ hw hB _ _ hS1 => ?_)
  exact kk r G1 H1 locs1 hw (by rw [← ht]; exact hB.1) hS1
theorem z_Sl {post : Int64 → zG → Prop} (C0 : zC p s m args meth c cc nL ret ws own E) (hP : zP E G H) (hD : zD E A) (hA : ∀ q, H0.size ≤ q → A q) (hS : va_S A H0 H locs) (hM : zMl l y ws' rm E G As post) (cw : CallB R s args own index y bytes maxL ret' ws' rm 0 0 n ∧ (Cond.static y).before args s = true)
    (hn : As.length = n) (hls : ls.size = nL) (hst : st0 = As.reverse ++ rest) (hW : (rest.map fun v => v.category).sum ≤ 8) (hdg : decode cc pc = .ok (.invokestatic index, 3)) (hcl : cells ≤ R.cells ∧ slots ≤ R.slots)
    (kk : ∀ (r : Int64) (G1 : zG) (H1 : Heap) (locs1 : List Loc), post r G1 → zP E G1 H1 → va_S A H0 H1 locs1 → W p l e R s m args below meth c H1 locs1 cells slots Q (F0 m (pc + 3) ls (.long r :: rest))) : W p l e R s m args below meth c H locs cells slots Q (F0 m pc ls st0) := by
  refine va_calll (va_runS (As := As) (rest := rest) ⟨C0.1, C0.2.1, C0.2.2.1, C0.2.2.2.1, C0.2.2.2.2.1⟩ (hM H.size) cw ⟨zPc_blind _ _ _ _, z_pre C0 hP _⟩ rfl hn hls hst (lv_room hW) hdg hcl) hS (fun q _ h => z_free hD hA hS q h) (z_free hD hA hS) (fun r G1 t H1 locs1 ht _ hw hB _ _ hS1 => ?_)
  exact kk r G1 H1 locs1 hw (by rw [← ht]; exact hB.1) hS1
theorem z_Sv {post : zG → Prop} (C0 : zC p s m args meth c cc nL ret ws own E) (hP : zP E G H) (hD : zD E A) (hA : ∀ q, H0.size ≤ q → A q) (hS : va_S A H0 H locs) (hM : zMv l y ws' rm E G As post) (cw : CallB R s args own index y bytes maxL ret' ws' rm 0 0 n ∧ (Cond.static y).before args s = true)
    (hn : As.length = n) (hls : ls.size = nL) (hst : st0 = As.reverse ++ rest) (hW : (rest.map fun v => v.category).sum ≤ 8) (hdg : decode cc pc = .ok (.invokestatic index, 3)) (hcl : cells ≤ R.cells ∧ slots ≤ R.slots)
    (kk : ∀ (G1 : zG) (H1 : Heap) (locs1 : List Loc), post G1 → zP E G1 H1 → va_S A H0 H1 locs1 → W p l e R s m args below meth c H1 locs1 cells slots Q (F0 m (pc + 3) ls rest)) : W p l e R s m args below meth c H locs cells slots Q (F0 m pc ls st0) := by
  refine va_callv (va_runS (As := As) (rest := rest) ⟨C0.1, C0.2.1, C0.2.2.1, C0.2.2.2.1, C0.2.2.2.2.1⟩ (hM H.size) cw ⟨zPc_blind _ _ _ _, z_pre C0 hP _⟩ rfl hn hls hst (lv_room hW) hdg hcl) hS (fun q _ h => z_free hD hA hS q h) (z_free hD hA hS) (fun G1 t H1 locs1 ht _ hw hB _ _ hS1 => ?_)
  exact kk G1 H1 locs1 hw (by rw [← ht]; exact hB.1) hS1
/-- ends -/
theorem z_iret {post : Int32 → zG → Prop} (C0 : zC p s m args meth c cc nL (some .int) ws own E) (hP : zP E G H) (hS : va_S (zA E s.heap.size) s.heap H locs) {v : Int32} (hp : post v G) (hdg : decode cc pc = .ok (.ireturn, 1)) : W p l e R s m args below meth c H locs 0 0 (MQ below (va_Qi post (zB E) (zA E s.heap.size)) args s 0 0 (zA E s.heap.size)) (F0 m pc ls [.int v]) :=
  W.iret C0.1 C0.2.1 C0.2.2.2.2.2.1 (fun t ht hW => ⟨⟨v, G, rfl, hp, by rw [ht]; exact hP, va_K.moved hW.alike C0.2.2.2.2.2.2.2.1⟩, hS.F ht⟩) hS.2.2 hdg C0.2.2.2.2.2.2.1
theorem z_zret {post : Int32 → zG → Prop} (C0 : zC p s m args meth c cc nL (some .boolean) ws own E) (hP : zP E G H) (hS : va_S (zA E s.heap.size) s.heap H locs) {v : Int32} (hv : v = 0 ∨ v = 1) (hp : post v G) (hdg : decode cc pc = .ok (.ireturn, 1)) : W p l e R s m args below meth c H locs 0 0 (MQ below (va_Qi post (zB E) (zA E s.heap.size)) args s 0 0 (zA E s.heap.size)) (F0 m pc ls [.int v]) :=
  W.zret C0.1 C0.2.1 C0.2.2.2.2.2.1 (by rcases hv with rfl | rfl <;> rfl) (fun t ht hW => ⟨⟨v, G, rfl, hp, by rw [ht]; exact hP, va_K.moved hW.alike C0.2.2.2.2.2.2.2.1⟩, hS.F ht⟩) hS.2.2 hdg C0.2.2.2.2.2.2.1
theorem z_lret {post : Int64 → zG → Prop} (C0 : zC p s m args meth c cc nL (some .long) ws own E) (hP : zP E G H) (hS : va_S (zA E s.heap.size) s.heap H locs) {v : Int64} (hp : post v G) (hdg : decode cc pc = .ok (.lreturn, 1)) : W p l e R s m args below meth c H locs 0 0 (MQ below (va_Ql post (zB E) (zA E s.heap.size)) args s 0 0 (zA E s.heap.size)) (F0 m pc ls [.long v]) :=
  W.lret C0.1 C0.2.1 C0.2.2.2.2.2.1 (fun t ht hW => ⟨⟨v, G, rfl, hp, by rw [ht]; exact hP, va_K.moved hW.alike C0.2.2.2.2.2.2.2.1⟩, hS.F ht⟩) hS.2.2 hdg C0.2.2.2.2.2.2.1
theorem z_vret {post : zG → Prop} (C0 : zC p s m args meth c cc nL none ws own E) (hP : zP E G H) (hS : va_S (zA E s.heap.size) s.heap H locs) (hp : post G) (hdg : decode cc pc = .ok (.return_, 1)) : W p l e R s m args below meth c H locs 0 0 (MQ below (va_Qv post (zB E) (zA E s.heap.size)) args s 0 0 (zA E s.heap.size)) (F0 m pc ls []) :=
  W.vret C0.1 C0.2.1 C0.2.2.2.2.2.1 (fun t ht hW => ⟨⟨G, rfl, hp, by rw [ht]; exact hP, va_K.moved hW.alike C0.2.2.2.2.2.2.2.1⟩, hS.F ht⟩) hS.2.2 hdg C0.2.2.2.2.2.2.1
theorem z_gen {Q0 : State → Prop} {g : JFrame} (k : ∀ Q1 : State → Prop, Q1 = Q0 → W p l e R s m args below meth c H locs cells slots Q1 g) : W p l e R s m args below meth c H locs cells slots Q0 g := k Q0 rfl
theorem z_eqi {x y : Int32} (h : x = y) (k : W p l e R s m args below meth c H locs cells slots Q (F0 m pc ls (.int y :: rest))) : W p l e R s m args below meth c H locs cells slots Q (F0 m pc ls (.int x :: rest)) := by
  subst h
  exact k
theorem z_alen (C0 : zC p s m args meth c cc nL ret ws own E) (hP : zP E G H) {k : Nat} {v : Int32} (hk : zk k = 11) (hv : Int32.ofNat (zl k) = v) (hdg : decode cc pc = .ok (.arraylength, 1))
    (kk : W p l e R s m args below meth c H locs cells slots Q (F0 m (pc + 1) ls (.int v :: rest))) : W p l e R s m args below meth c H locs cells slots Q (F0 m pc ls (.ref (E.1 k) :: rest)) :=
  va_alen C0.1 C0.2.1 C0.2.2.2.2.2.2.2.1 hP k 0 (x := (zl k, .inl (G k))) ((zW_at E G (zk_lt hk (by decide))).trans (by rw [zd_11 E hk])) (ty := .int) rfl hv hdg kk
theorem z_copy (C0 : zC p s m args meth c cc nL ret ws own E) (hP : zP E G H) (hD : zD E A) (hS : va_S A H0 H locs) (hls : ls.size = nL) {k0 k sz index : Nat} {F0_ F : Nat → Int32} (hF0 : G k0 = F0_) (hF : G k = F) (hk0 : zk k0 = 11) (hk : zk k = 11) (h4 : sz ≤ zl k0) (h5 : sz ≤ zl k) (hsz : sz < 2 ^ 31)
    (hlink : (Cond.methodLink own index arraycopyName).before args s = true) (hnat : (Cond.native arraycopyName).before args s = true) (hstat : (Cond.static arraycopyName).before args s = true) (hini : (Cond.initialized "java/lang/System").before args s = true) (hframes : 1 ≤ R.frames) (hlocals : (rest.map fun v => v.category).sum + (nativeFrameWords "java/lang/System" "arraycopy" 5 + 11) ≤ R.locals) (hdg : decode cc pc = .ok (.invokestatic index, 3))
    {v : Int32} (hv : v = nI sz) (kk : ∀ (f : Nat → Int32) (_ : ∀ j, j < sz → f j = F0_ j) (H1 : Heap) (locs1 : List Loc), zP E (g1 G k f) H1 → va_S A H0 H1 locs1 → W p l e R s m args below meth c H1 locs1 cells slots Q (F0 m (pc + 3) ls rest)) : W p l e R s m args below meth c H locs cells slots Q (F0 m pc ls (.int v :: .int 0 :: .ref (E.1 k) :: .int 0 :: .ref (E.1 k0) :: rest)) := by
  subst hF0
  subst hF
  subst hv
  have hk01 := zk_lt hk0 (by decide)
  have hk1 := zk_lt hk (by decide)
  have hc0 : (0 : Int32).toNatClampNeg = 0 := rfl
  have hcn : (nI sz).toNatClampNeg = sz := nI_clamp hsz
  refine va_copyi C0.1 C0.2.1 (C0.2.2.1.trans hls.symm) C0.2.2.2.1 hlink hnat hstat hini C0.2.2.2.2.2.2.2.1 hP (zD_va hD G) hS k0 k 0 0 ((zW_at E G hk01).trans (by rw [zd_11 E hk0])) ((zW_at E G hk1).trans (by rw [zd_11 E hk])) rfl rfl rfl (by decide) (by decide) (nI_pos hsz) (by rw [hc0, hcn]; omega) (by rw [hc0, hcn]; omega) (fun _ _ => rfl) hframes hlocals hdg (fun H1 locs1 h1 _ h3 => ?_)
  rw [hc0, hcn] at h1
  refine kk _ (fun j hj => ?_) H1 locs1 (by unfold zP; rw [← zW_set E G hk1, zd_11 E hk]; exact h1) h3
  rw [pk_cpy_in (Nat.zero_le _) (by omega)]
  simp
/-- numbers that are Nat -/
theorem z_iadd (hx : p.tables.exec = Jvm.exec) (hb : c.code = cc) {a b n : Nat} {x y : Int32} (hdg : decode cc pc = .ok (.iadd, 1)) (ha : x = nI a) (hb2 : y = nI b) (hn : a + b = n)
    (k : W p l e R s m args below meth c H locs cells slots Q (F0 m (pc + 1) ls (.int (nI n) :: rest))) : W p l e R s m args below meth c H locs cells slots Q (F0 m pc ls (.int y :: .int x :: rest)) := by
  subst ha; subst hb2; subst hn
  refine lv_iadd hx hb hdg ?_
  rw [nI_add]
  exact k
theorem z_imul (hx : p.tables.exec = Jvm.exec) (hb : c.code = cc) {a b n : Nat} {x y : Int32} (hdg : decode cc pc = .ok (.imul, 1)) (ha : x = nI a) (hb2 : y = nI b) (hn : a * b = n)
    (k : W p l e R s m args below meth c H locs cells slots Q (F0 m (pc + 1) ls (.int (nI n) :: rest))) : W p l e R s m args below meth c H locs cells slots Q (F0 m pc ls (.int y :: .int x :: rest)) := by
  subst ha; subst hb2; subst hn
  refine lv_imul hx hb hdg ?_
  rw [pk_mul]
  exact k
theorem z_isub (hx : p.tables.exec = Jvm.exec) (hb : c.code = cc) {a b n : Nat} {x y : Int32} (hdg : decode cc pc = .ok (.isub, 1)) (ha : x = nI a) (hb2 : y = nI b) (h : b ≤ a) (hn : a - b = n)
    (k : W p l e R s m args below meth c H locs cells slots Q (F0 m (pc + 1) ls (.int (nI n) :: rest))) : W p l e R s m args below meth c H locs cells slots Q (F0 m pc ls (.int y :: .int x :: rest)) := by
  subst ha; subst hb2; subst hn
  refine lv_isub hx hb hdg ?_
  rw [pk_sub h]
  exact k
theorem z_idiv (hx : p.tables.exec = Jvm.exec) (hb : c.code = cc) {a b : Nat} {x y : Int32} (hdg : decode cc pc = .ok (.idiv, 1)) (ha : x = nI a) (hb2 : y = nI b) (h : a < 2 ^ 31) (h0 : 0 < b) (hd : b < 2 ^ 31)
    (k : W p l e R s m args below meth c H locs cells slots Q (F0 m (pc + 1) ls (.int (nI (a / b)) :: rest))) : W p l e R s m args below meth c H locs cells slots Q (F0 m pc ls (.int y :: .int x :: rest)) := by
  subst ha; subst hb2
  refine lv_idiv hx hb hdg (nI_ne0 h0 hd) ?_
  rw [pk_div h h0 hd]
  exact k
theorem z_irem (hx : p.tables.exec = Jvm.exec) (hb : c.code = cc) {a b : Nat} {x y : Int32} (hdg : decode cc pc = .ok (.irem, 1)) (ha : x = nI a) (hb2 : y = nI b) (h : a < 2 ^ 31) (h0 : 0 < b) (hd : b < 2 ^ 31)
    (k : W p l e R s m args below meth c H locs cells slots Q (F0 m (pc + 1) ls (.int (nI (a % b)) :: rest))) : W p l e R s m args below meth c H locs cells slots Q (F0 m pc ls (.int y :: .int x :: rest)) := by
  subst ha; subst hb2
  refine lv_irem hx hb hdg (nI_ne0 h0 hd) ?_
  rw [pk_rem h h0 hd]
  exact k
theorem z_N_eq (hx : p.tables.exec = Jvm.exec) (hb : c.code = cc) {a b tgt : Nat} {off : Int} {x y : Int32} (hdg : decode cc pc = .ok (.if_icmp .eq off, 3)) (ha : x = nI a) (hb2 : y = nI b) (h1 : a < 2 ^ 31) (h2 : b < 2 ^ 31) (ht : (pc : Int) + off = (tgt : Int))
    (kt : a = b → W p l e R s m args below meth c H locs cells slots Q (F0 m tgt ls rest)) (kf : a ≠ b → W p l e R s m args below meth c H locs cells slots Q (F0 m (pc + 3) ls rest)) : W p l e R s m args below meth c H locs cells slots Q (F0 m pc ls (.int y :: .int x :: rest)) := by
  subst ha; subst hb2
  exact lv_icmp_eq hx hb hdg ht (fun h => kt ((nI_eq h1 h2).mp h)) (fun h => kf (fun q => h ((nI_eq h1 h2).mpr q)))
theorem z_N_ne (hx : p.tables.exec = Jvm.exec) (hb : c.code = cc) {a b tgt : Nat} {off : Int} {x y : Int32} (hdg : decode cc pc = .ok (.if_icmp .ne off, 3)) (ha : x = nI a) (hb2 : y = nI b) (h1 : a < 2 ^ 31) (h2 : b < 2 ^ 31) (ht : (pc : Int) + off = (tgt : Int))
    (kt : a ≠ b → W p l e R s m args below meth c H locs cells slots Q (F0 m tgt ls rest)) (kf : a = b → W p l e R s m args below meth c H locs cells slots Q (F0 m (pc + 3) ls rest)) : W p l e R s m args below meth c H locs cells slots Q (F0 m pc ls (.int y :: .int x :: rest)) := by
  subst ha; subst hb2
  exact lv_icmp_ne hx hb hdg ht (fun h => kt (fun q => h ((nI_eq h1 h2).mpr q))) (fun h => kf ((nI_eq h1 h2).mp h))
theorem z_N_lt (hx : p.tables.exec = Jvm.exec) (hb : c.code = cc) {a b tgt : Nat} {off : Int} {x y : Int32} (hdg : decode cc pc = .ok (.if_icmp .lt off, 3)) (ha : x = nI a) (hb2 : y = nI b) (h1 : a < 2 ^ 31) (h2 : b < 2 ^ 31) (ht : (pc : Int) + off = (tgt : Int))
    (kt : a < b → W p l e R s m args below meth c H locs cells slots Q (F0 m tgt ls rest)) (kf : b ≤ a → W p l e R s m args below meth c H locs cells slots Q (F0 m (pc + 3) ls rest)) : W p l e R s m args below meth c H locs cells slots Q (F0 m pc ls (.int y :: .int x :: rest)) := by
  subst ha; subst hb2
  exact lv_icmp_lt hx hb hdg ht (fun h => kt ((nI_ltI h1 h2).mp h)) (fun h => kf (Nat.not_lt.mp fun q => h ((nI_ltI h1 h2).mpr q)))
theorem z_N_ge (hx : p.tables.exec = Jvm.exec) (hb : c.code = cc) {a b tgt : Nat} {off : Int} {x y : Int32} (hdg : decode cc pc = .ok (.if_icmp .ge off, 3)) (ha : x = nI a) (hb2 : y = nI b) (h1 : a < 2 ^ 31) (h2 : b < 2 ^ 31) (ht : (pc : Int) + off = (tgt : Int))
    (kt : b ≤ a → W p l e R s m args below meth c H locs cells slots Q (F0 m tgt ls rest)) (kf : a < b → W p l e R s m args below meth c H locs cells slots Q (F0 m (pc + 3) ls rest)) : W p l e R s m args below meth c H locs cells slots Q (F0 m pc ls (.int y :: .int x :: rest)) := by
  subst ha; subst hb2
  exact lv_icmp_ge hx hb hdg ht (fun h => kt ((nI_leI h2 h1).mp h)) (fun h => kf (Nat.not_le.mp fun q => h ((nI_leI h2 h1).mpr q)))
theorem z_N_gt (hx : p.tables.exec = Jvm.exec) (hb : c.code = cc) {a b tgt : Nat} {off : Int} {x y : Int32} (hdg : decode cc pc = .ok (.if_icmp .gt off, 3)) (ha : x = nI a) (hb2 : y = nI b) (h1 : a < 2 ^ 31) (h2 : b < 2 ^ 31) (ht : (pc : Int) + off = (tgt : Int))
    (kt : b < a → W p l e R s m args below meth c H locs cells slots Q (F0 m tgt ls rest)) (kf : a ≤ b → W p l e R s m args below meth c H locs cells slots Q (F0 m (pc + 3) ls rest)) : W p l e R s m args below meth c H locs cells slots Q (F0 m pc ls (.int y :: .int x :: rest)) := by
  subst ha; subst hb2
  exact lv_icmp_gt hx hb hdg ht (fun h => kt ((nI_ltI h2 h1).mp h)) (fun h => kf (Nat.not_lt.mp fun q => h ((nI_ltI h2 h1).mpr q)))
theorem z_N_le (hx : p.tables.exec = Jvm.exec) (hb : c.code = cc) {a b tgt : Nat} {off : Int} {x y : Int32} (hdg : decode cc pc = .ok (.if_icmp .le off, 3)) (ha : x = nI a) (hb2 : y = nI b) (h1 : a < 2 ^ 31) (h2 : b < 2 ^ 31) (ht : (pc : Int) + off = (tgt : Int))
    (kt : a ≤ b → W p l e R s m args below meth c H locs cells slots Q (F0 m tgt ls rest)) (kf : b < a → W p l e R s m args below meth c H locs cells slots Q (F0 m (pc + 3) ls rest)) : W p l e R s m args below meth c H locs cells slots Q (F0 m pc ls (.int y :: .int x :: rest)) := by
  subst ha; subst hb2
  exact lv_icmp_le hx hb hdg ht (fun h => kt ((nI_leI h1 h2).mp h)) (fun h => kf (Nat.not_le.mp fun q => h ((nI_leI h1 h2).mpr q)))
theorem z_0_eq (hx : p.tables.exec = Jvm.exec) (hb : c.code = cc) {a tgt : Nat} {off : Int} {x : Int32} (hdg : decode cc pc = .ok (.ifCond .eq off, 3)) (ha : x = nI a) (h1 : a < 2 ^ 31) (ht : (pc : Int) + off = (tgt : Int))
    (kt : a = 0 → W p l e R s m args below meth c H locs cells slots Q (F0 m tgt ls rest)) (kf : a ≠ 0 → W p l e R s m args below meth c H locs cells slots Q (F0 m (pc + 3) ls rest)) : W p l e R s m args below meth c H locs cells slots Q (F0 m pc ls (.int x :: rest)) := by
  subst ha
  exact lv_if_eq hx hb hdg ht (fun h => kt ((nI_eq h1 (by decide)).mp (h.trans nI_0.symm))) (fun h => kf (fun q => h (by rw [q, nI_0])))
theorem z_0_ne (hx : p.tables.exec = Jvm.exec) (hb : c.code = cc) {a tgt : Nat} {off : Int} {x : Int32} (hdg : decode cc pc = .ok (.ifCond .ne off, 3)) (ha : x = nI a) (h1 : a < 2 ^ 31) (ht : (pc : Int) + off = (tgt : Int))
    (kt : a ≠ 0 → W p l e R s m args below meth c H locs cells slots Q (F0 m tgt ls rest)) (kf : a = 0 → W p l e R s m args below meth c H locs cells slots Q (F0 m (pc + 3) ls rest)) : W p l e R s m args below meth c H locs cells slots Q (F0 m pc ls (.int x :: rest)) := by
  subst ha
  exact lv_if_ne hx hb hdg ht (fun h => kt (fun q => h (by rw [q, nI_0]))) (fun h => kf ((nI_eq h1 (by decide)).mp (h.trans nI_0.symm)))
theorem z_0_lt (hx : p.tables.exec = Jvm.exec) (hb : c.code = cc) {a tgt : Nat} {off : Int} {x : Int32} (hdg : decode cc pc = .ok (.ifCond .lt off, 3)) (ha : x = nI a) (h1 : a < 2 ^ 31) (ht : (pc : Int) + off = (tgt : Int))
    (_kt : a < 0 → W p l e R s m args below meth c H locs cells slots Q (F0 m tgt ls rest)) (kf : 0 ≤ a → W p l e R s m args below meth c H locs cells slots Q (F0 m (pc + 3) ls rest)) : W p l e R s m args below meth c H locs cells slots Q (F0 m pc ls (.int x :: rest)) := by
  subst ha
  exact lv_if_lt hx hb hdg ht (fun h => absurd h (nI_pos h1)) (fun _ => kf (Nat.zero_le _))
theorem z_0_ge (hx : p.tables.exec = Jvm.exec) (hb : c.code = cc) {a tgt : Nat} {off : Int} {x : Int32} (hdg : decode cc pc = .ok (.ifCond .ge off, 3)) (ha : x = nI a) (h1 : a < 2 ^ 31) (ht : (pc : Int) + off = (tgt : Int))
    (kt : 0 ≤ a → W p l e R s m args below meth c H locs cells slots Q (F0 m tgt ls rest)) (_kf : a < 0 → W p l e R s m args below meth c H locs cells slots Q (F0 m (pc + 3) ls rest)) : W p l e R s m args below meth c H locs cells slots Q (F0 m pc ls (.int x :: rest)) := by
  subst ha
  exact lv_if_ge hx hb hdg ht (fun _ => kt (Nat.zero_le _)) (fun h => absurd (nI_pos' h1) h)
theorem z_0_gt (hx : p.tables.exec = Jvm.exec) (hb : c.code = cc) {a tgt : Nat} {off : Int} {x : Int32} (hdg : decode cc pc = .ok (.ifCond .gt off, 3)) (ha : x = nI a) (h1 : a < 2 ^ 31) (ht : (pc : Int) + off = (tgt : Int))
    (kt : 0 < a → W p l e R s m args below meth c H locs cells slots Q (F0 m tgt ls rest)) (kf : ¬ 0 < a → W p l e R s m args below meth c H locs cells slots Q (F0 m (pc + 3) ls rest)) : W p l e R s m args below meth c H locs cells slots Q (F0 m pc ls (.int x :: rest)) := by
  subst ha
  exact lv_if_gt hx hb hdg ht (fun h => kt ((nI_ltI (by decide) h1).mp (by rw [nI_0]; exact h))) (fun h => kf (fun q => h (by have := (nI_ltI (by decide) h1).mpr q; rwa [nI_0] at this)))
theorem z_0_le (hx : p.tables.exec = Jvm.exec) (hb : c.code = cc) {a tgt : Nat} {off : Int} {x : Int32} (hdg : decode cc pc = .ok (.ifCond .le off, 3)) (ha : x = nI a) (h1 : a < 2 ^ 31) (ht : (pc : Int) + off = (tgt : Int))
    (kt : ¬ 0 < a → W p l e R s m args below meth c H locs cells slots Q (F0 m tgt ls rest)) (kf : 0 < a → W p l e R s m args below meth c H locs cells slots Q (F0 m (pc + 3) ls rest)) : W p l e R s m args below meth c H locs cells slots Q (F0 m pc ls (.int x :: rest)) := by
  subst ha
  exact lv_if_le hx hb hdg ht (fun h => kt (fun q => nI_nle q h1 h)) (fun h => kf (Nat.pos_of_ne_zero fun q => h (by rw [q, nI_0]; decide)))
end ZR
theorem z_inc {a : Nat} {c : Int} {k : Nat} (h : Int32.ofInt c = nI k) : nI a + Int32.ofInt c = nI (a + k) := by rw [h, nI_add]
theorem z_dec {a : Nat} {c : Int} {k b : Nat} (h : Int32.ofInt c = -nI k) (hb : a = b + k) : nI a + Int32.ofInt c = nI b := by
  rw [h, hb, ← nI_add]
  generalize nI b = x
  generalize nI k = y
  grind
theorem g1_t (G : zG) (k : Nat) (f g : Nat → Int32) : g1 (g1 G k f) k g = g1 G k g := by
  funext j
  unfold g1
  split <;> rfl
theorem g1_x {G : zG} {k k2 : Nat} {f g : Nat → Int32} (h : k ≠ k2) : g1 (g1 G k2 f) k g = g1 (g1 G k g) k2 f := by
  funext j
  unfold g1
  split
  · rename_i h1
    rw [if_neg (by omega)]
  · rfl
theorem zP_eq {E : zE} {G G2 : zG} {H : Heap} (h : G = G2) (hP : zP E G H) : zP E G2 H := h ▸ hP
theorem z_refx {E : zE} {k n r : Nat} {x : Int32} (h : x = nI n) (hn : n < 2 ^ 31) (hr : k + 16 + n = r) : some (Value.ref (E.1 (k + 16 + x.toNatClampNeg))) = some (.ref (E.1 r)) := by
  rw [h, nI_clamp hn, hr]
/-- which cells lie behind a tag: (offset, kind, length) -/
def zIs (t : Nat) (T : List (Nat × Nat × Nat)) : Prop := ∀ q ∈ T, zk (t + q.1) = q.2.1 ∧ zl (t + q.1) = q.2.2
theorem zIs_sub {t : Nat} {T T2 : List (Nat × Nat × Nat)} (h : zIs t T) (o : Nat) (hs : ∀ q ∈ T2, (q.1 + o, q.2) ∈ T) : zIs (t + o) T2 := by
  intro q hq
  have h1 := h _ (hs q hq)
  have e : t + o + q.1 = t + (q.1 + o) := by omega
  rw [e]
  exact h1
def tAth : List (Nat × Nat × Nat) := [(0, 0, 2), (1, 11, 4), (2, 11, 10)]
def tCou : List (Nat × Nat × Nat) := [(0, 1, 4), (1, 11, 10), (2, 11, 10), (3, 11, 10)]
def tDue : List (Nat × Nat × Nat) := [(0, 2, 2), (1, 11, 4), (2, 11, 4)]
def tFie : List (Nat × Nat × Nat) := [(0, 3, 3), (1, 1, 4), (2, 11, 10), (3, 11, 10), (4, 11, 10), (5, 12, 5), (6, 0, 2), (7, 11, 4), (8, 11, 10), (9, 0, 2), (10, 11, 4), (11, 11, 10), (12, 0, 2), (13, 11, 4), (14, 11, 10), (15, 0, 2), (16, 11, 4), (17, 11, 10), (18, 0, 2), (19, 11, 4), (20, 11, 10)]
def tLot : List (Nat × Nat × Nat) := [(0, 4, 2)]
def tPla : List (Nat × Nat × Nat) := [(0, 5, 8), (1, 11, 10), (2, 11, 10), (3, 11, 10), (4, 13, 11), (5, 11, 100), (6, 11, 100), (7, 11, 100), (8, 11, 100), (9, 11, 100), (10, 11, 100), (11, 11, 100), (12, 11, 100), (13, 11, 100), (14, 11, 100), (15, 11, 100), (16, 11, 3100), (17, 11, 3100)]
def tRow : List (Nat × Nat × Nat) := [(0, 6, 2), (1, 11, 12)]
def tTex : List (Nat × Nat × Nat) := [(0, 7, 2), (1, 11, 96)]
def tTri : List (Nat × Nat × Nat) := [(0, 8, 6), (1, 1, 4), (2, 11, 10), (3, 11, 10), (4, 11, 10), (5, 0, 2), (6, 11, 4), (7, 11, 10), (8, 11, 10), (9, 11, 10), (10, 11, 10)]
def tArr10 : List (Nat × Nat × Nat) := [(0, 11, 10)]
def tArr4 : List (Nat × Nat × Nat) := [(0, 11, 4)]
def tArr102 : List (Nat × Nat × Nat) := [(0, 11, 102)]
theorem z_lit_Fie_1 : zIs 1 tFie := by unfold zIs; decide +kernel
theorem z_lit_Fie_22 : zIs 22 tFie := by unfold zIs; decide +kernel
theorem z_lit_Tri_48 : zIs 48 tTri := by unfold zIs; decide +kernel
theorem z_lit_Tri_59 : zIs 59 tTri := by unfold zIs; decide +kernel
theorem z_lit_Cou_2 : zIs 2 tCou := by unfold zIs; decide +kernel
theorem z_lit_Cou_23 : zIs 23 tCou := by unfold zIs; decide +kernel
theorem z_lit_Cou_49 : zIs 49 tCou := by unfold zIs; decide +kernel
theorem z_lit_Cou_60 : zIs 60 tCou := by unfold zIs; decide +kernel
theorem z_lit_Ath_53 : zIs 53 tAth := by unfold zIs; decide +kernel
theorem z_lit_Ath_64 : zIs 64 tAth := by unfold zIs; decide +kernel
theorem z_lit_Pla_70 : zIs 70 tPla := by unfold zIs; decide +kernel
theorem zIs_ath {f i : Nat} (h : zIs f tFie) (hi : i < 5) : zIs (f + 5 + 1 + 3 * i) tAth := by
  have e : f + 5 + 1 + 3 * i = f + (6 + 3 * i) := by omega
  rw [e]
  refine zIs_sub h _ ?_
  rcases (show i = 0 ∨ i = 1 ∨ i = 2 ∨ i = 3 ∨ i = 4 by omega) with rfl | rfl | rfl | rfl | rfl <;> decide
theorem zIs_toc {t i : Nat} (h : zIs t tPla) (hi : i < 11) : zIs (t + 4 + 1 + i) [(0, 11, 100)] := by
  have e : t + 4 + 1 + i = t + (5 + i) := by omega
  rw [e]
  refine zIs_sub h _ ?_
  rcases (show i = 0 ∨ i = 1 ∨ i = 2 ∨ i = 3 ∨ i = 4 ∨ i = 5 ∨ i = 6 ∨ i = 7 ∨ i = 8 ∨ i = 9 ∨ i = 10 by omega) with rfl | rfl | rfl | rfl | rfl | rfl | rfl | rfl | rfl | rfl | rfl <;> decide
theorem z_sw (x : Int32) (lo : Int) (n : Nat) : (x.toInt < lo ∨ lo + n ≤ x.toInt) ∨ ∃ k : Nat, k < n ∧ x.toInt = lo + k := by
  by_cases h1 : x.toInt < lo
  · exact Or.inl (Or.inl h1)
  · by_cases h2 : lo + n ≤ x.toInt
    · exact Or.inl (Or.inr h2)
    · exact Or.inr ⟨(x.toInt - lo).toNat, by omega, by omega⟩
theorem z_swo {x : Int32} {lo hi lo2 : Int} {n : Nat} (h : x.toInt < lo ∨ lo + n ≤ x.toInt) (h1 : lo = lo2) (h2 : lo + n = hi + 1) : x.toInt < lo2 ∨ hi < x.toInt := by
  subst h1
  rcases h with h | h
  · exact Or.inl h
  · exact Or.inr (by omega)
theorem z_swi {x y : Int32} {lo : Int} {k : Nat} (h : x.toInt = lo + k) (h2 : y.toInt = lo + k) : x = y := Int32.toInt_inj.mp (h.trans h2.symm)
