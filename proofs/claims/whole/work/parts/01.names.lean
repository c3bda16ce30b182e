/-! ===== BEGIN words of one list among another's, by their places ===== -/
theorem goodIn_r {big : List Cond} (ws : List Cond) (ps : List Nat) (hp : ws = ps.filterMap (fun i => big[i]?)) (h : ws.all goodWord = true) : GoodIn big ws := by
  intro w hw
  have h1 := List.all_eq_true.mp h w hw
  rw [hp] at hw
  obtain ⟨i, -, hi⟩ := List.mem_filterMap.mp hw
  have hm : w ∈ big := by first | exact List.mem_of_getElem? hi | exact List.getElem?_mem hi
  exact ⟨hm, good_of_word h1⟩
theorem goodIn_app {big a b : List Cond} (ha : GoodIn big a) (hb : GoodIn big b) : GoodIn big (a ++ b) := fun w h => (List.mem_append.mp h).elim (ha w) (hb w)
theorem goodIn_ca {big a b : List Cond} {c : Cond} (ha : GoodIn big (c :: a)) (hb : GoodIn big b) : GoodIn big (c :: (a ++ b)) := fun w h => (List.mem_cons.mp h).elim (fun e => ha w (List.mem_cons.mpr (Or.inl e))) (fun h => (List.mem_append.mp h).elim (fun h => ha w (List.mem_cons.mpr (Or.inr h))) (hb w))
theorem goodIn_sub {big ws : List Cond} (hm : ∀ w ∈ ws, w ∈ big) (h : ws.all goodWord = true) : GoodIn big ws := fun w hw => ⟨hm w hw, good_of_word (List.all_eq_true.mp h w hw)⟩
/-! ===== END ===== -/

/-! ===== BEGIN new T[n][m]: the outer array a place, the inner ones among the pooled ===== -/
/-- f, but v at every address of l -/
def vr_up {α : Type} (f : Nat → α) (l : List Nat) (v : α) : Nat → α := fun a => if a ∈ l then v else f a
theorem vr_up_in {α : Type} {f : Nat → α} {l : List Nat} {v : α} {a : Nat} (h : a ∈ l) : vr_up f l v a = v := if_pos h
theorem vr_up_ne {α : Type} {f : Nat → α} {l : List Nat} {v : α} {a : Nat} (h : a ∉ l) : vr_up f l v a = f a := if_neg h
theorem vr_rows {L l : List Nat} {f : Nat → va_E} {e : va_E} (h : ∀ a, a ∈ l → a ∉ L) : va_pl L f ++ l.map (fun a => (a, e)) = va_pl (L ++ l) (vr_up f l e) := by
  unfold va_pl
  rw [List.map_append]
  congr 1
  · apply List.map_congr_left
    intro a ha
    rw [vr_up_ne (fun q => h a q ha)]
  · apply List.map_congr_left
    intro a ha
    rw [vr_up_in ha]
theorem vr_lay {X rows : va_W} {x : Nat × va_E} {pl : va_W} {D : va_G} {cl : List vw_C} {H : Heap} (hP : va_P D cl (((X ++ pl) ++ [x]) ++ rows) H) : va_P D cl ((X ++ [x]) ++ (pl ++ rows)) H := by
  rw [List.append_assoc (X ++ pl)] at hP
  have h := va_P.swap hP
  rw [← List.append_assoc X] at h
  have h2 := va_P.swap h
  rw [List.append_assoc (X ++ [x])] at h2
  exact h2
theorem vr_layD {X rows : va_W} {x : Nat × va_E} {pl : va_W} {A : Nat → Prop} (hD : va_D A (((X ++ pl) ++ [x]) ++ rows)) : va_D A ((X ++ [x]) ++ (pl ++ rows)) := by
  rw [List.append_assoc (X ++ pl)] at hD
  have h := va_D.swap hD
  rw [← List.append_assoc X] at h
  have h2 := va_D.swap h
  rw [List.append_assoc (X ++ [x])] at h2
  exact h2
theorem vr_outer (c : ClassId) (N h0 : Nat) : ∀ i : Nat, Jvm.Free.Multi.outerC c N h0 i = arrV c N (fun j => va_rf (if j < i then some (h0 + 1 + j) else none))
  | 0 => by
    show ({ cls := c, slots := Array.replicate N .null, vm := .none } : Cell) = _
    rw [arrV_new]
    refine congrArg (arrV c N) (funext fun j => ?_)
    simp [va_rf]
  | i + 1 => by
    show (Jvm.Free.Multi.outerC c N h0 i).setSlot i (.ref (h0 + 1 + i)) = _
    rw [vr_outer c N h0 i, arrV_store]
    refine congrArg (arrV c N) (funext fun j => ?_)
    by_cases e : j = i
    · subst e
      simp [updV, va_rf]
    · by_cases h : j < i
      · simp [updV, e, h, Nat.lt_succ_of_lt h]
      · simp [updV, e, h, show ¬ j < i + 1 by omega]
section VGM
variable {p : Program} {l : Launch} {e : Env} {R : Room} {s : State} {m : MethodId} {args : Array Value} {below : List Frame} {meth : Method} {c : Code} {H : Heap} {locs : List Loc} {cells slots : Nat} {Q : State → Prop}
variable {cc : ByteArray} {pc : Nat} {ls : Array Slot} {rest : List Value} {D : va_G} {cl : List vw_C} {A : Nat → Prop} {a : Nat} {tys : List (ClassId × FieldType)} {ws : va_W} {H0 : Heap}
theorem va_mna {X : va_W} {L : List Nat} {f : Nat → va_E} {cc : ByteArray} (hexec : p.tables.exec = Jvm.exec) (hb : c.code = cc) {own : String} {index : Nat} {ty : FieldType} {cy : ClassId} (hown : s.vm.findClass own = some m.cls) (hclink : (Cond.classLink own index ("[" ++ (FieldType.array ty).toString)).before args s = true) (hover : va_AOA ty s) (harr : (Cond.arrayClass ty).before args s = true) (hcy : s.vm.findClass (FieldType.array ty).toString = some cy)
    (hK : va_K D cl tys s) (hP : va_P D cl (X ++ va_pl L f) H) (hD : va_D A (X ++ va_pl L f)) (hS : va_S A H0 H locs) (hA : ∀ q, H0.size ≤ q → A q) {n k : Int32} {N' K' : Nat} {z : vp_A} (hn : ¬ n < 0) (hk : ¬ k < 0) (hN : n.toNatClampNeg = N') (hM : k.toNatClampNeg = K')
    (hb1 : N' * 4 ≤ 536870912) (hb2 : K' * componentBytes ty ≤ 536870912) (hb3 : K' ≤ 536870912) (hdf : fits ty (defaultValue ty) = true) (hdd : (defaultValue ty).isDefault = true) (hcells : cells + (1 + N') ≤ R.cells) (hslots : slots + (N' + N' * K') ≤ R.slots) (hz : ∀ c : ClassId, Jvm.Free.Multi.innerC c K' (defaultValue ty) = vp_cell c z) (hdg : decode cc pc = .ok (.multianewarray index 2, 4))
    (kk : ∀ (q : Nat) (r : Nat → Nat) (cA : ClassId) (H1 : Heap), (∀ i j : Nat, i < N' → j < N' → r i = r j → i = j) → (∀ i : Nat, i < N' → r i ∉ L) → va_K D cl (tys ++ [(cA, .array ty)]) s →
      va_P D cl ((X ++ [(q, .inl (cA, N', .inr (.inr (.inr (.inr (fun i => if i < N' then some (r i) else none))))))]) ++ va_pl (L ++ (List.range N').map r) (vr_up f ((List.range N').map r) (.inl (cy, z)))) H1 → va_D A ((X ++ [(q, .inl (cA, N', .inr (.inr (.inr (.inr (fun i => if i < N' then some (r i) else none))))))]) ++ va_pl (L ++ (List.range N').map r) (vr_up f ((List.range N').map r) (.inl (cy, z)))) → va_S A H0 H1 locs →
      W p l e R s m args below meth c H1 locs (cells + 1 + N') (slots + N' + N' * K') Q (F0 m (pc + 4) ls (.ref q :: rest))) : W p l e R s m args below meth c H locs cells slots Q (F0 m pc ls (.int k :: .int n :: rest)) := by
  subst hN
  subst hM
  intro T hT Xs
  obtain ⟨vm₁, cA, comp, -, fA, fC, hO, -, X', step⟩ := Xs.multianewarray2F hexec hown hclink (va_AOA.use hover) harr (g := F0 m pc ls (.int k :: .int n :: rest)) rfl (by rw [hb]; exact hdg) rfl hn hk hb1 hb2 hb3 hdf hdd hcells hslots
  have ec : some cy = some comp := hcy.symm.trans fC
  cases ec
  generalize hF : Jvm.Free.Multi.fill (T.setVm vm₁) cA cy n.toNatClampNeg k.toNatClampNeg (defaultValue ty) n.toNatClampNeg = F at X' step
  have hTh : (T.setVm vm₁).heap = H := hT
  obtain ⟨f1, f2, -, -⟩ := Jvm.Free.Multi.fill_facts (T.setVm vm₁) cA cy n.toNatClampNeg k.toNatClampNeg (defaultValue ty) n.toNatClampNeg
  rw [hF, hTh] at f1 f2
  have hold : ∀ x : Nat, x < H.size → F.heap[x]? = H[x]? := fun x hx => by
    have := Jvm.Free.Multi.fill_old (T.setVm vm₁) cA cy n.toNatClampNeg k.toNatClampNeg (defaultValue ty) (a := x) (by rw [hTh]; exact hx) n.toNatClampNeg
    rw [hF, hTh] at this
    exact this
  have hrow : ∀ j : Nat, j < n.toNatClampNeg → F.heap[H.size + 1 + j]? = some (vp_cell cy z) := fun j hj => by
    have := Jvm.Free.Multi.fill_inner (T.setVm vm₁) cA cy n.toNatClampNeg k.toNatClampNeg (defaultValue ty) n.toNatClampNeg j hj
    rw [hF, hTh, hz] at this
    exact this
  have hout : Jvm.Free.Multi.outerC cA n.toNatClampNeg H.size n.toNatClampNeg = vp_cell cA (n.toNatClampNeg, .inr (.inr (.inr (.inr (fun i => if i < n.toNatClampNeg then some (H.size + 1 + i) else none))))) := by
    rw [vp_cell_q]
    exact vr_outer cA n.toNatClampNeg H.size n.toNatClampNeg
  rw [hout] at f2
  have hlt : ∀ a, a ∈ L → a < H.size := fun a ha => by
    obtain ⟨k9, hk9⟩ := va_pl_get (X := X) (f := f) ha
    exact (hP k9 _ hk9).lt
  have hnl : ∀ i : Nat, i < n.toNatClampNeg → H.size + 1 + i ∉ L := fun i _ h => by
    have := hlt _ h
    omega
  have hnm : ∀ a, a ∈ (List.range n.toNatClampNeg).map (fun i => H.size + 1 + i) → a ∉ L := fun a ha h => by
    obtain ⟨i, -, rfl⟩ := List.mem_map.mp ha
    have := hlt _ h
    omega
  have hP0 : va_P D cl (X ++ va_pl L f) F.heap := hP.kept (fun k9 x hx => hold x.1 ((hP k9 x hx).lt))
  have hP1 : va_P D cl ((X ++ va_pl L f) ++ [(H.size, .inl (cA, n.toNatClampNeg, .inr (.inr (.inr (.inr (fun i => if i < n.toNatClampNeg then some (H.size + 1 + i) else none))))))]) F.heap := hP0.app (fun k9 x hx => by
    have h0 : k9 < 1 := (List.getElem?_eq_some_iff.mp hx).1
    rw [show k9 = 0 by omega] at hx
    cases hx
    exact f2)
  have hP2 : va_P D cl (((X ++ va_pl L f) ++ [(H.size, .inl (cA, n.toNatClampNeg, .inr (.inr (.inr (.inr (fun i => if i < n.toNatClampNeg then some (H.size + 1 + i) else none))))))]) ++ ((List.range n.toNatClampNeg).map (fun i => H.size + 1 + i)).map (fun a => (a, .inl (cy, z)))) F.heap := hP1.app (fun k9 x hx => by
    obtain ⟨a, ha, rfl⟩ := List.mem_map.mp (List.mem_of_getElem? hx)
    obtain ⟨i, hi, rfl⟩ := List.mem_map.mp ha
    exact hrow i (List.mem_range.mp hi))
  have hD2 : va_D A (((X ++ va_pl L f) ++ [(H.size, .inl (cA, n.toNatClampNeg, .inr (.inr (.inr (.inr (fun i => if i < n.toNatClampNeg then some (H.size + 1 + i) else none))))))]) ++ ((List.range n.toNatClampNeg).map (fun i => H.size + 1 + i)).map (fun a => (a, .inl (cy, z)))) := by
    have hD1 := hD.push (e := .inl (cA, n.toNatClampNeg, .inr (.inr (.inr (.inr (fun i => if i < n.toNatClampNeg then some (H.size + 1 + i) else none)))))) hP rfl (hA _ hS.1)
    generalize hW1 : (X ++ va_pl L f) ++ [(H.size, .inl (cA, n.toNatClampNeg, .inr (.inr (.inr (.inr (fun i => if i < n.toNatClampNeg then some (H.size + 1 + i) else none))))))] = W1 at hD1 hP1 ⊢
    have hle : ∀ (k9 : Nat) (x : Nat × va_E), W1[k9]? = some x → x.1 ≤ H.size := fun k9 x hx => by
      rw [← hW1] at hx
      by_cases hl : k9 < (X ++ va_pl L f).length
      · rw [List.getElem?_append_left hl] at hx
        exact Nat.le_of_lt ((hP k9 x hx).lt)
      · rw [List.getElem?_append_right (by omega)] at hx
        have h0 : k9 - (X ++ va_pl L f).length < 1 := (List.getElem?_eq_some_iff.mp hx).1
        rw [show k9 - (X ++ va_pl L f).length = 0 by omega] at hx
        cases hx
        exact Nat.le_refl _
    have hr : ∀ (k9 : Nat) (x : Nat × va_E), (((List.range n.toNatClampNeg).map (fun i => H.size + 1 + i)).map (fun a => ((a, .inl (cy, z)) : Nat × va_E)))[k9]? = some x → x.1 = H.size + 1 + k9 := fun k9 x hx => by
      rw [List.getElem?_map, List.getElem?_map] at hx
      by_cases h9 : k9 < n.toNatClampNeg
      · rw [List.getElem?_range h9] at hx
        cases hx
        rfl
      · have hn0 : (List.range n.toNatClampNeg)[k9]? = none := List.getElem?_eq_none (by rw [List.length_range]; omega)
        rw [hn0] at hx
        cases hx
    refine ⟨fun i j x y hi hj hxy => ?_, fun k9 x hx => ?_⟩
    · by_cases h1 : i < W1.length <;> by_cases h2 : j < W1.length
      · rw [List.getElem?_append_left h1] at hi
        rw [List.getElem?_append_left h2] at hj
        exact hD1.1 i j x y hi hj hxy
      · rw [List.getElem?_append_left h1] at hi
        rw [List.getElem?_append_right (by omega)] at hj
        have := hle _ _ hi
        have := hr _ _ hj
        omega
      · rw [List.getElem?_append_right (by omega)] at hi
        rw [List.getElem?_append_left h2] at hj
        have := hle _ _ hj
        have := hr _ _ hi
        omega
      · rw [List.getElem?_append_right (by omega)] at hi hj
        have := hr _ _ hi
        have := hr _ _ hj
        omega
    · by_cases h1 : k9 < W1.length
      · rw [List.getElem?_append_left h1] at hx
        exact hD1.2 k9 x hx
      · rw [List.getElem?_append_right (by omega)] at hx
        have := hr _ _ hx
        exact hA _ (by have := hS.1; omega)
  have hAr : ArrOfT s cA (.array ty) := fun N9 z9 => by
    obtain ⟨-, k9, hk9, cm9, hkk9⟩ := (hO 0 0 0).1
    exact ⟨(fun q hq => by cases hq), k9, hk9, cm9, hkk9⟩
  have hK2 : va_K D cl (tys ++ [(cA, .array ty)]) s := ⟨hK.1, fun k9 x hx => by
    by_cases hl : k9 < tys.length
    · rw [List.getElem?_append_left hl] at hx
      exact hK.2 k9 x hx
    · rw [List.getElem?_append_right (by omega)] at hx
      have h0 : k9 - tys.length < 1 := (List.getElem?_eq_some_iff.mp hx).1
      rw [show k9 - tys.length = 0 by omega] at hx
      cases hx
      exact ⟨hAr, fA⟩⟩
  obtain ⟨t, a1, b1⟩ := kk H.size (fun i => H.size + 1 + i) cA F.heap (fun i j _ _ h => by have h9 : H.size + 1 + i = H.size + 1 + j := h; omega) hnl hK2 (by rw [← vr_rows hnm]; exact vr_lay hP2) (by rw [← vr_rows hnm]; exact vr_layD hD2) ⟨by rw [f1]; have := hS.1; omega, fun x h1 h2 => (hold x (Nat.lt_of_lt_of_le h1 hS.1)).trans (hS.2.1 x h1 h2), hS.2.2⟩ F rfl X'
  refine ⟨t, step t ?_, b1⟩
  have e : T.heap.size = H.size := by rw [hT]
  rw [e]
  exact a1
end VGM
/-! ===== END ===== -/

/-! ===== BEGIN printed: names, fields, word lists, decode rows ===== -/
def RX0 : String := "WetSuitPedalsShoes$Athlete"
def TX0 : u_T := fun k => match k with
  | 0 => ("WetSuitPedalsShoes$Athlete", "able", "[I", true)
  | _ => ("WetSuitPedalsShoes$Athlete", "tries", "[I", true)
def tyX0 : Nat → FieldType := fun k => match k with
  | 0 => .array .int
  | _ => .array .int
abbrev wsX00 : List Cond := u_ws RX0 TX0 2
theorem nmX0 : ∀ a, a < 2 → ∀ b, b < 2 → a ≠ b → (TX0 a).2.1 ≠ (TX0 b).2.1 := by decide +kernel
theorem tyX0_ok : ∀ k, k < 2 → parseFieldDescriptor (TX0 k).2.2.1 = some (tyX0 k) := by decide +kernel
abbrev cX0_init : ByteArray := prog_2_method_1_code
def yX0_init : MethodName := ⟨RX0, "<init>", "()V"⟩
abbrev cX0_start : ByteArray := prog_2_method_2_code
def yX0_start : MethodName := ⟨RX0, "start", "(IIII)V"⟩
abbrev cX0_become : ByteArray := prog_2_method_3_code
def yX0_become : MethodName := ⟨RX0, "become", "(LWetSuitPedalsShoes$Athlete;)V"⟩
def RX1 : String := "WetSuitPedalsShoes$Course"
def TX1 : u_T := fun k => match k with
  | 0 => ("WetSuitPedalsShoes$Course", "many", "I", false)
  | 1 => ("WetSuitPedalsShoes$Course", "kind", "[I", true)
  | 2 => ("WetSuitPedalsShoes$Course", "figure", "[I", true)
  | _ => ("WetSuitPedalsShoes$Course", "length", "[I", true)
def tyX1 : Nat → FieldType := fun k => match k with
  | 0 => .int
  | 1 => .array .int
  | 2 => .array .int
  | _ => .array .int
abbrev wsX10 : List Cond := u_ws RX1 TX1 4
theorem nmX1 : ∀ a, a < 4 → ∀ b, b < 4 → a ≠ b → (TX1 a).2.1 ≠ (TX1 b).2.1 := by decide +kernel
theorem tyX1_ok : ∀ k, k < 4 → parseFieldDescriptor (TX1 k).2.2.1 = some (tyX1 k) := by decide +kernel
abbrev cX1_init : ByteArray := prog_3_method_1_code
def yX1_init : MethodName := ⟨RX1, "<init>", "()V"⟩
abbrev cX1_has : ByteArray := prog_3_method_2_code
def yX1_has : MethodName := ⟨RX1, "has", "(I)Z"⟩
abbrev cX1_add : ByteArray := prog_3_method_3_code
def yX1_add : MethodName := ⟨RX1, "add", "(III)V"⟩
abbrev cX1_become : ByteArray := prog_3_method_4_code
def yX1_become : MethodName := ⟨RX1, "become", "(LWetSuitPedalsShoes$Course;)V"⟩
abbrev cX1_become_ : ByteArray := prog_3_method_5_code
def yX1_become_ : MethodName := ⟨RX1, "become", "(III)V"⟩
abbrev cX1_exchange : ByteArray := prog_3_method_6_code
def yX1_exchange : MethodName := ⟨RX1, "exchange", "(II)V"⟩
abbrev cX1_exchange_ : ByteArray := prog_3_method_7_code
def yX1_exchange_ : MethodName := ⟨RX1, "exchange", "([III)V"⟩
abbrev cX1_remove : ByteArray := prog_3_method_8_code
def yX1_remove : MethodName := ⟨RX1, "remove", "(I)V"⟩
abbrev cX1_untried : ByteArray := prog_3_method_9_code
def yX1_untried : MethodName := ⟨RX1, "untried", "(ILWetSuitPedalsShoes$Athlete;)I"⟩
abbrev cX1_isBehindRide : ByteArray := prog_3_method_10_code
def yX1_isBehindRide : MethodName := ⟨RX1, "isBehindRide", "(I)Z"⟩
abbrev cX1_lengths : ByteArray := prog_3_method_11_code
def yX1_lengths : MethodName := ⟨RX1, "lengths", "()I"⟩
abbrev cX1_changes : ByteArray := prog_3_method_12_code
def yX1_changes : MethodName := ⟨RX1, "changes", "()I"⟩
abbrev cX1_rides : ByteArray := prog_3_method_13_code
def yX1_rides : MethodName := ⟨RX1, "rides", "()I"⟩
def RX2 : String := "WetSuitPedalsShoes$Duel"
def TX2 : u_T := fun k => match k with
  | 0 => ("WetSuitPedalsShoes$Duel", "first", "[I", true)
  | _ => ("WetSuitPedalsShoes$Duel", "second", "[I", true)
def tyX2 : Nat → FieldType := fun k => match k with
  | 0 => .array .int
  | _ => .array .int
abbrev wsX20 : List Cond := u_ws RX2 TX2 2
theorem nmX2 : ∀ a, a < 2 → ∀ b, b < 2 → a ≠ b → (TX2 a).2.1 ≠ (TX2 b).2.1 := by decide +kernel
theorem tyX2_ok : ∀ k, k < 2 → parseFieldDescriptor (TX2 k).2.2.1 = some (tyX2 k) := by decide +kernel
abbrev cX2_init : ByteArray := prog_4_method_1_code
def yX2_init : MethodName := ⟨RX2, "<init>", "()V"⟩
abbrev cX2_settled : ByteArray := prog_4_method_2_code
def yX2_settled : MethodName := ⟨RX2, "settled", "()I"⟩
abbrev cX2_isBestAgainst : ByteArray := prog_4_method_3_code
def yX2_isBestAgainst : MethodName := ⟨RX2, "isBestAgainst", "([III)Z"⟩
abbrev cX2_hindered : ByteArray := prog_4_method_4_code
def yX2_hindered : MethodName := ⟨RX2, "hindered", "([III)I"⟩
def RX3 : String := "WetSuitPedalsShoes$Field"
def TX3 : u_T := fun k => match k with
  | 0 => ("WetSuitPedalsShoes$Field", "course", "LWetSuitPedalsShoes$Course;", true)
  | 1 => ("WetSuitPedalsShoes$Field", "athletes", "[LWetSuitPedalsShoes$Athlete;", true)
  | _ => ("WetSuitPedalsShoes$Field", "many", "I", false)
def tyX3 : Nat → FieldType := fun k => match k with
  | 0 => .object "WetSuitPedalsShoes$Course"
  | 1 => .array (.object "WetSuitPedalsShoes$Athlete")
  | _ => .int
abbrev wsX30 : List Cond := u_ws RX3 TX3 3
theorem nmX3 : ∀ a, a < 3 → ∀ b, b < 3 → a ≠ b → (TX3 a).2.1 ≠ (TX3 b).2.1 := by decide +kernel
theorem tyX3_ok : ∀ k, k < 3 → parseFieldDescriptor (TX3 k).2.2.1 = some (tyX3 k) := by decide +kernel
abbrev cX3_init : ByteArray := prog_5_method_1_code
def yX3_init : MethodName := ⟨RX3, "<init>", "()V"⟩
abbrev cX3_has : ByteArray := prog_5_method_2_code
def yX3_has : MethodName := ⟨RX3, "has", "(I)Z"⟩
abbrev cX3_add : ByteArray := prog_5_method_3_code
def yX3_add : MethodName := ⟨RX3, "add", "(IIII)V"⟩
abbrev cX3_planTries : ByteArray := prog_5_method_4_code
def yX3_planTries : MethodName := ⟨RX3, "planTries", "(III)V"⟩
abbrev cX3_become : ByteArray := prog_5_method_5_code
def yX3_become : MethodName := ⟨RX3, "become", "(LWetSuitPedalsShoes$Field;)V"⟩
abbrev cX3_allTries : ByteArray := prog_5_method_6_code
def yX3_allTries : MethodName := ⟨RX3, "allTries", "()I"⟩
def RX4 : String := "WetSuitPedalsShoes$Kinds"
def TX4 : u_T := fun k => match k with
  | _ => ("", "", "", false)
def tyX4 : Nat → FieldType := fun k => match k with
  | _ => .int
abbrev wsX40 : List Cond := u_ws RX4 TX4 0
theorem nmX4 : ∀ a, a < 0 → ∀ b, b < 0 → a ≠ b → (TX4 a).2.1 ≠ (TX4 b).2.1 := by decide +kernel
theorem tyX4_ok : ∀ k, k < 0 → parseFieldDescriptor (TX4 k).2.2.1 = some (tyX4 k) := by decide +kernel
abbrev cX4_ofLetter : ByteArray := prog_6_method_2_code
def yX4_ofLetter : MethodName := ⟨RX4, "ofLetter", "(I)I"⟩
abbrev cX4_isRide : ByteArray := prog_6_method_3_code
def yX4_isRide : MethodName := ⟨RX4, "isRide", "(I)Z"⟩
abbrev cX4_takes : ByteArray := prog_6_method_4_code
def yX4_takes : MethodName := ⟨RX4, "takes", "(I)I"⟩
abbrev cX4_secondsTrying : ByteArray := prog_6_method_5_code
def yX4_secondsTrying : MethodName := ⟨RX4, "secondsTrying", "(III)I"⟩
abbrev cX4_legsBehind : ByteArray := prog_6_method_6_code
def yX4_legsBehind : MethodName := ⟨RX4, "legsBehind", "(IIII)I"⟩
def RX5 : String := "WetSuitPedalsShoes$Lots"
def TX5 : u_T := fun k => match k with
  | 0 => ("WetSuitPedalsShoes$Lots", "seed", "I", false)
  | _ => ("WetSuitPedalsShoes$Lots", "finishOfFirst", "I", false)
def tyX5 : Nat → FieldType := fun k => match k with
  | 0 => .int
  | _ => .int
abbrev wsX50 : List Cond := u_ws RX5 TX5 2
theorem nmX5 : ∀ a, a < 2 → ∀ b, b < 2 → a ≠ b → (TX5 a).2.1 ≠ (TX5 b).2.1 := by decide +kernel
theorem tyX5_ok : ∀ k, k < 2 → parseFieldDescriptor (TX5 k).2.2.1 = some (tyX5 k) := by decide +kernel
abbrev cX5_init : ByteArray := prog_7_method_1_code
def yX5_init : MethodName := ⟨RX5, "<init>", "()V"⟩
abbrev cX5_below : ByteArray := prog_7_method_2_code
def yX5_below : MethodName := ⟨RX5, "below", "(I)I"⟩
def RX6 : String := "WetSuitPedalsShoes$Odds"
def TX6 : u_T := fun k => match k with
  | _ => ("", "", "", false)
def tyX6 : Nat → FieldType := fun k => match k with
  | _ => .int
abbrev wsX60 : List Cond := u_ws RX6 TX6 0
theorem nmX6 : ∀ a, a < 0 → ∀ b, b < 0 → a ≠ b → (TX6 a).2.1 ≠ (TX6 b).2.1 := by decide +kernel
theorem tyX6_ok : ∀ k, k < 0 → parseFieldDescriptor (TX6 k).2.2.1 = some (tyX6 k) := by decide +kernel
abbrev cX6_power : ByteArray := prog_8_method_2_code
def yX6_power : MethodName := ⟨RX6, "power", "(JI)J"⟩
abbrev cX6_waysWithin : ByteArray := prog_8_method_3_code
def yX6_waysWithin : MethodName := ⟨RX6, "waysWithin", "(IIII)J"⟩
abbrev cX6_partInLeastTerms : ByteArray := prog_8_method_4_code
def yX6_partInLeastTerms : MethodName := ⟨RX6, "partInLeastTerms", "(JJI)J"⟩
abbrev cX6_commonDivisor : ByteArray := prog_8_method_5_code
def yX6_commonDivisor : MethodName := ⟨RX6, "commonDivisor", "(JJ)J"⟩
def RX7 : String := "WetSuitPedalsShoes$Planner"
def TX7 : u_T := fun k => match k with
  | 0 => ("WetSuitPedalsShoes$Planner", "many", "I", false)
  | 1 => ("WetSuitPedalsShoes$Planner", "legsAtStart", "I", false)
  | 2 => ("WetSuitPedalsShoes$Planner", "kind", "[I", true)
  | 3 => ("WetSuitPedalsShoes$Planner", "length", "[I", true)
  | 4 => ("WetSuitPedalsShoes$Planner", "untried", "[I", true)
  | 5 => ("WetSuitPedalsShoes$Planner", "toCome", "[[I", true)
  | 6 => ("WetSuitPedalsShoes$Planner", "reached", "[I", false)
  | _ => ("WetSuitPedalsShoes$Planner", "next", "[I", false)
def tyX7 : Nat → FieldType := fun k => match k with
  | 0 => .int
  | 1 => .int
  | 2 => .array .int
  | 3 => .array .int
  | 4 => .array .int
  | 5 => .array (.array .int)
  | 6 => .array .int
  | _ => .array .int
abbrev wsX70 : List Cond := u_ws RX7 TX7 8
theorem nmX7 : ∀ a, a < 8 → ∀ b, b < 8 → a ≠ b → (TX7 a).2.1 ≠ (TX7 b).2.1 := by decide +kernel
theorem tyX7_ok : ∀ k, k < 8 → parseFieldDescriptor (TX7 k).2.2.1 = some (tyX7 k) := by decide +kernel
abbrev cX7_init : ByteArray := prog_9_method_1_code
def yX7_init : MethodName := ⟨RX7, "<init>", "()V"⟩
abbrev cX7_look : ByteArray := prog_9_method_2_code
def yX7_look : MethodName := ⟨RX7, "look", "(LWetSuitPedalsShoes$Course;LWetSuitPedalsShoes$Athlete;)V"⟩
abbrev cX7_secondsFrom : ByteArray := prog_9_method_3_code
def yX7_secondsFrom : MethodName := ⟨RX7, "secondsFrom", "(III)I"⟩
abbrev cX7_easiestBest : ByteArray := prog_9_method_4_code
def yX7_easiestBest : MethodName := ⟨RX7, "easiestBest", "(II)I"⟩
abbrev cX7_leastFinish : ByteArray := prog_9_method_5_code
def yX7_leastFinish : MethodName := ⟨RX7, "leastFinish", "()I"⟩
abbrev cX7_bestTries : ByteArray := prog_9_method_6_code
def yX7_bestTries : MethodName := ⟨RX7, "bestTries", "(I)I"⟩
abbrev cX7_fewestTries : ByteArray := prog_9_method_7_code
def yX7_fewestTries : MethodName := ⟨RX7, "fewestTries", "(I)I"⟩
abbrev cX7_emptyNext : ByteArray := prog_9_method_8_code
def yX7_emptyNext : MethodName := ⟨RX7, "emptyNext", "()V"⟩
abbrev cX7_takeNext : ByteArray := prog_9_method_9_code
def yX7_takeNext : MethodName := ⟨RX7, "takeNext", "()V"⟩
abbrev cX7_goOnFrom : ByteArray := prog_9_method_10_code
def yX7_goOnFrom : MethodName := ⟨RX7, "goOnFrom", "(III)V"⟩
abbrev cX7_goOnFromLegs : ByteArray := prog_9_method_11_code
def yX7_goOnFromLegs : MethodName := ⟨RX7, "goOnFromLegs", "(IIII)V"⟩
def RX8 : String := "WetSuitPedalsShoes$Row"
def TX8 : u_T := fun k => match k with
  | 0 => ("WetSuitPedalsShoes$Row", "many", "I", false)
  | _ => ("WetSuitPedalsShoes$Row", "numbers", "[I", true)
def tyX8 : Nat → FieldType := fun k => match k with
  | 0 => .int
  | _ => .array .int
abbrev wsX80 : List Cond := u_ws RX8 TX8 2
theorem nmX8 : ∀ a, a < 2 → ∀ b, b < 2 → a ≠ b → (TX8 a).2.1 ≠ (TX8 b).2.1 := by decide +kernel
theorem tyX8_ok : ∀ k, k < 2 → parseFieldDescriptor (TX8 k).2.2.1 = some (tyX8 k) := by decide +kernel
abbrev cX8_init : ByteArray := prog_10_method_1_code
def yX8_init : MethodName := ⟨RX8, "<init>", "()V"⟩
abbrev cX8_isFull : ByteArray := prog_10_method_2_code
def yX8_isFull : MethodName := ⟨RX8, "isFull", "()Z"⟩
abbrev cX8_put : ByteArray := prog_10_method_3_code
def yX8_put : MethodName := ⟨RX8, "put", "(I)I"⟩
abbrev cX8_forget : ByteArray := prog_10_method_4_code
def yX8_forget : MethodName := ⟨RX8, "forget", "()I"⟩
abbrev cX8_firstUnlike : ByteArray := prog_10_method_5_code
def yX8_firstUnlike : MethodName := ⟨RX8, "firstUnlike", "([II)I"⟩
def RX9 : String := "WetSuitPedalsShoes$Text"
def TX9 : u_T := fun k => match k with
  | 0 => ("WetSuitPedalsShoes$Text", "many", "I", false)
  | _ => ("WetSuitPedalsShoes$Text", "letters", "[I", true)
def tyX9 : Nat → FieldType := fun k => match k with
  | 0 => .int
  | _ => .array .int
abbrev wsX90 : List Cond := u_ws RX9 TX9 2
theorem nmX9 : ∀ a, a < 2 → ∀ b, b < 2 → a ≠ b → (TX9 a).2.1 ≠ (TX9 b).2.1 := by decide +kernel
theorem tyX9_ok : ∀ k, k < 2 → parseFieldDescriptor (TX9 k).2.2.1 = some (tyX9 k) := by decide +kernel
abbrev cX9_init : ByteArray := prog_11_method_1_code
def yX9_init : MethodName := ⟨RX9, "<init>", "()V"⟩
abbrev cX9_isFull : ByteArray := prog_11_method_2_code
def yX9_isFull : MethodName := ⟨RX9, "isFull", "()Z"⟩
abbrev cX9_put : ByteArray := prog_11_method_3_code
def yX9_put : MethodName := ⟨RX9, "put", "(I)I"⟩
abbrev cX9_forget : ByteArray := prog_11_method_4_code
def yX9_forget : MethodName := ⟨RX9, "forget", "()V"⟩
abbrev cX9_faultIn : ByteArray := prog_11_method_5_code
def yX9_faultIn : MethodName := ⟨RX9, "faultIn", "(LWetSuitPedalsShoes$Field;)I"⟩
abbrev cX9_placeOfBadLetter : ByteArray := prog_11_method_6_code
def yX9_placeOfBadLetter : MethodName := ⟨RX9, "placeOfBadLetter", "()I"⟩
abbrev cX9_leastInside : ByteArray := prog_11_method_7_code
def yX9_leastInside : MethodName := ⟨RX9, "leastInside", "(I)I"⟩
abbrev cX9_mostInside : ByteArray := prog_11_method_8_code
def yX9_mostInside : MethodName := ⟨RX9, "mostInside", "(I)I"⟩
abbrev cX9_fits : ByteArray := prog_11_method_9_code
def yX9_fits : MethodName := ⟨RX9, "fits", "(III)Z"⟩
abbrev cX9_endOf : ByteArray := prog_11_method_10_code
def yX9_endOf : MethodName := ⟨RX9, "endOf", "(I)I"⟩
abbrev cX9_digit : ByteArray := prog_11_method_11_code
def yX9_digit : MethodName := ⟨RX9, "digit", "(I)I"⟩
abbrev cX9_letterAt : ByteArray := prog_11_method_12_code
def yX9_letterAt : MethodName := ⟨RX9, "letterAt", "(I)I"⟩
abbrev cX9_placeOfBadStatement : ByteArray := prog_11_method_13_code
def yX9_placeOfBadStatement : MethodName := ⟨RX9, "placeOfBadStatement", "(LWetSuitPedalsShoes$Field;)I"⟩
abbrev cX9_isAsItMustBe : ByteArray := prog_11_method_14_code
def yX9_isAsItMustBe : MethodName := ⟨RX9, "isAsItMustBe", "(IIII)Z"⟩
abbrev cX9_areTries : ByteArray := prog_11_method_15_code
def yX9_areTries : MethodName := ⟨RX9, "areTries", "(II)Z"⟩
abbrev cX9_tellTo : ByteArray := prog_11_method_16_code
def yX9_tellTo : MethodName := ⟨RX9, "tellTo", "(LWetSuitPedalsShoes$Field;)I"⟩
abbrev cX9_tellOne : ByteArray := prog_11_method_17_code
def yX9_tellOne : MethodName := ⟨RX9, "tellOne", "(LWetSuitPedalsShoes$Field;II)V"⟩
def RX10 : String := "WetSuitPedalsShoes$Trial"
def TX10 : u_T := fun k => match k with
  | 0 => ("WetSuitPedalsShoes$Trial", "course", "LWetSuitPedalsShoes$Course;", true)
  | 1 => ("WetSuitPedalsShoes$Trial", "who", "LWetSuitPedalsShoes$Athlete;", true)
  | 2 => ("WetSuitPedalsShoes$Trial", "drinkBehind", "I", false)
  | 3 => ("WetSuitPedalsShoes$Trial", "seconds", "[I", true)
  | 4 => ("WetSuitPedalsShoes$Trial", "legs", "[I", true)
  | _ => ("WetSuitPedalsShoes$Trial", "all", "[I", true)
def tyX10 : Nat → FieldType := fun k => match k with
  | 0 => .object "WetSuitPedalsShoes$Course"
  | 1 => .object "WetSuitPedalsShoes$Athlete"
  | 2 => .int
  | 3 => .array .int
  | 4 => .array .int
  | _ => .array .int
abbrev wsX100 : List Cond := u_ws RX10 TX10 6
theorem nmX10 : ∀ a, a < 6 → ∀ b, b < 6 → a ≠ b → (TX10 a).2.1 ≠ (TX10 b).2.1 := by decide +kernel
theorem tyX10_ok : ∀ k, k < 6 → parseFieldDescriptor (TX10 k).2.2.1 = some (tyX10 k) := by decide +kernel
abbrev cX10_init : ByteArray := prog_12_method_1_code
def yX10_init : MethodName := ⟨RX10, "<init>", "()V"⟩
abbrev cX10_load : ByteArray := prog_12_method_2_code
def yX10_load : MethodName := ⟨RX10, "load", "(LWetSuitPedalsShoes$Course;LWetSuitPedalsShoes$Athlete;)V"⟩
abbrev cX10_run : ByteArray := prog_12_method_3_code
def yX10_run : MethodName := ⟨RX10, "run", "()I"⟩
abbrev cX10_rideAt : ByteArray := prog_12_method_4_code
def yX10_rideAt : MethodName := ⟨RX10, "rideAt", "(I)V"⟩
abbrev cX10_leaveOut : ByteArray := prog_12_method_5_code
def yX10_leaveOut : MethodName := ⟨RX10, "leaveOut", "(I)V"⟩
abbrev cX10_legsAtFinish : ByteArray := prog_12_method_6_code
def yX10_legsAtFinish : MethodName := ⟨RX10, "legsAtFinish", "()I"⟩
abbrev cX10_gone : ByteArray := prog_12_method_7_code
def yX10_gone : MethodName := ⟨RX10, "gone", "()I"⟩
abbrev cX10_sectionAt : ByteArray := prog_12_method_8_code
def yX10_sectionAt : MethodName := ⟨RX10, "sectionAt", "(I)I"⟩
abbrev cX10_isPastIn : ByteArray := prog_12_method_9_code
def yX10_isPastIn : MethodName := ⟨RX10, "isPastIn", "(ILWetSuitPedalsShoes$Trial;)Z"⟩
abbrev cX10_howOftenPast : ByteArray := prog_12_method_10_code
def yX10_howOftenPast : MethodName := ⟨RX10, "howOftenPast", "(LWetSuitPedalsShoes$Trial;)I"⟩
abbrev cX10_firstPast : ByteArray := prog_12_method_11_code
def yX10_firstPast : MethodName := ⟨RX10, "firstPast", "(LWetSuitPedalsShoes$Trial;)I"⟩
abbrev cX10_slowest : ByteArray := prog_12_method_12_code
def yX10_slowest : MethodName := ⟨RX10, "slowest", "()I"⟩
abbrev cX10_secondsOfChanges : ByteArray := prog_12_method_13_code
def yX10_secondsOfChanges : MethodName := ⟨RX10, "secondsOfChanges", "()I"⟩
def RX11 : String := "WetSuitPedalsShoes"
def TX11 : u_T := fun k => match k with
  | 0 => ("WetSuitPedalsShoes", "field", "LWetSuitPedalsShoes$Field;", true)
  | 1 => ("WetSuitPedalsShoes", "kept", "LWetSuitPedalsShoes$Field;", true)
  | 2 => ("WetSuitPedalsShoes", "imageTaken", "Z", false)
  | 3 => ("WetSuitPedalsShoes", "text", "LWetSuitPedalsShoes$Text;", true)
  | 4 => ("WetSuitPedalsShoes", "told", "LWetSuitPedalsShoes$Row;", true)
  | 5 => ("WetSuitPedalsShoes", "refusals", "[I", true)
  | 6 => ("WetSuitPedalsShoes", "trial", "LWetSuitPedalsShoes$Trial;", true)
  | 7 => ("WetSuitPedalsShoes", "rival", "LWetSuitPedalsShoes$Trial;", true)
  | 8 => ("WetSuitPedalsShoes", "planner", "LWetSuitPedalsShoes$Planner;", true)
  | 9 => ("WetSuitPedalsShoes", "duel", "LWetSuitPedalsShoes$Duel;", true)
  | _ => ("WetSuitPedalsShoes", "dice", "LWetSuitPedalsShoes$Lots;", true)
def tyX11 : Nat → FieldType := fun k => match k with
  | 0 => .object "WetSuitPedalsShoes$Field"
  | 1 => .object "WetSuitPedalsShoes$Field"
  | 2 => .boolean
  | 3 => .object "WetSuitPedalsShoes$Text"
  | 4 => .object "WetSuitPedalsShoes$Row"
  | 5 => .array .int
  | 6 => .object "WetSuitPedalsShoes$Trial"
  | 7 => .object "WetSuitPedalsShoes$Trial"
  | 8 => .object "WetSuitPedalsShoes$Planner"
  | 9 => .object "WetSuitPedalsShoes$Duel"
  | _ => .object "WetSuitPedalsShoes$Lots"
abbrev wsX110 : List Cond := u_ws RX11 TX11 11
theorem nmX11 : ∀ a, a < 11 → ∀ b, b < 11 → a ≠ b → (TX11 a).2.1 ≠ (TX11 b).2.1 := by decide +kernel
theorem tyX11_ok : ∀ k, k < 11 → parseFieldDescriptor (TX11 k).2.2.1 = some (tyX11 k) := by decide +kernel
abbrev cX11_init : ByteArray := prog_1_method_1_code
def yX11_init : MethodName := ⟨RX11, "<init>", "()V"⟩
abbrev cX11_letter : ByteArray := prog_1_method_2_code
def yX11_letter : MethodName := ⟨RX11, "letter", "(I)I"⟩
abbrev cX11_race : ByteArray := prog_1_method_3_code
def yX11_race : MethodName := ⟨RX11, "race", "()I"⟩
abbrev cX11_section : ByteArray := prog_1_method_4_code
def yX11_section : MethodName := ⟨RX11, "section", "(II)I"⟩
abbrev cX11_athlete : ByteArray := prog_1_method_5_code
def yX11_athlete : MethodName := ⟨RX11, "athlete", "(II)I"⟩
abbrev cX11_tries : ByteArray := prog_1_method_6_code
def yX11_tries : MethodName := ⟨RX11, "tries", "(II)I"⟩
abbrev cX11_turn : ByteArray := prog_1_method_7_code
def yX11_turn : MethodName := ⟨RX11, "turn", "(III)I"⟩
abbrev cX11_swap : ByteArray := prog_1_method_8_code
def yX11_swap : MethodName := ⟨RX11, "swap", "(II)I"⟩
abbrev cX11_skill : ByteArray := prog_1_method_9_code
def yX11_skill : MethodName := ⟨RX11, "skill", "(III)I"⟩
abbrev cX11_tryHard : ByteArray := prog_1_method_10_code
def yX11_tryHard : MethodName := ⟨RX11, "tryHard", "(III)I"⟩
abbrev cX11_by : ByteArray := prog_1_method_11_code
def yX11_by : MethodName := ⟨RX11, "by", "(III)I"⟩
abbrev cX11_finish : ByteArray := prog_1_method_12_code
def yX11_finish : MethodName := ⟨RX11, "finish", "(II)I"⟩
abbrev cX11_at : ByteArray := prog_1_method_13_code
def yX11_at : MethodName := ⟨RX11, "at", "(II)I"⟩
abbrev cX11_overtakes : ByteArray := prog_1_method_14_code
def yX11_overtakes : MethodName := ⟨RX11, "overtakes", "(III)I"⟩
abbrev cX11_bestPlan : ByteArray := prog_1_method_15_code
def yX11_bestPlan : MethodName := ⟨RX11, "bestPlan", "(II)I"⟩
abbrev cX11_hardest : ByteArray := prog_1_method_16_code
def yX11_hardest : MethodName := ⟨RX11, "hardest", "(I)I"⟩
abbrev cX11_leastTries : ByteArray := prog_1_method_17_code
def yX11_leastTries : MethodName := ⟨RX11, "leastTries", "(II)I"⟩
abbrev cX11_drink : ByteArray := prog_1_method_18_code
def yX11_drink : MethodName := ⟨RX11, "drink", "(II)I"⟩
abbrev cX11_train : ByteArray := prog_1_method_19_code
def yX11_train : MethodName := ⟨RX11, "train", "(II)I"⟩
abbrev cX11_weakest : ByteArray := prog_1_method_20_code
def yX11_weakest : MethodName := ⟨RX11, "weakest", "(I)I"⟩
abbrev cX11_meadow : ByteArray := prog_1_method_21_code
def yX11_meadow : MethodName := ⟨RX11, "meadow", "(II)I"⟩
abbrev cX11_leave : ByteArray := prog_1_method_22_code
def yX11_leave : MethodName := ⟨RX11, "leave", "(II)I"⟩
abbrev cX11_order : ByteArray := prog_1_method_23_code
def yX11_order : MethodName := ⟨RX11, "order", "(I)I"⟩
abbrev cX11_puncture : ByteArray := prog_1_method_24_code
def yX11_puncture : MethodName := ⟨RX11, "puncture", "(IIIII)J"⟩
abbrev cX11_mean : ByteArray := prog_1_method_25_code
def yX11_mean : MethodName := ⟨RX11, "mean", "(IIII)J"⟩
abbrev cX11_tube : ByteArray := prog_1_method_26_code
def yX11_tube : MethodName := ⟨RX11, "tube", "(III)I"⟩
abbrev cX11_draw : ByteArray := prog_1_method_27_code
def yX11_draw : MethodName := ⟨RX11, "draw", "(II)I"⟩
abbrev cX11_two : ByteArray := prog_1_method_28_code
def yX11_two : MethodName := ⟨RX11, "two", "(III)I"⟩
abbrev cX11_whatWas : ByteArray := prog_1_method_29_code
def yX11_whatWas : MethodName := ⟨RX11, "whatWas", "(II)I"⟩
abbrev cX11_row : ByteArray := prog_1_method_30_code
def yX11_row : MethodName := ⟨RX11, "row", "(I)I"⟩
abbrev cX11_judge : ByteArray := prog_1_method_31_code
def yX11_judge : MethodName := ⟨RX11, "judge", "(I)I"⟩
abbrev cX11_clear : ByteArray := prog_1_method_32_code
def yX11_clear : MethodName := ⟨RX11, "clear", "()I"⟩
abbrev cX11_lots : ByteArray := prog_1_method_33_code
def yX11_lots : MethodName := ⟨RX11, "lots", "(III)I"⟩
abbrev cX11_image : ByteArray := prog_1_method_34_code
def yX11_image : MethodName := ⟨RX11, "image", "()I"⟩
abbrev cX11_on : ByteArray := prog_1_method_35_code
def yX11_on : MethodName := ⟨RX11, "on", "()I"⟩
abbrev cX11_count : ByteArray := prog_1_method_36_code
def yX11_count : MethodName := ⟨RX11, "count", "(I)I"⟩
abbrev cX11_refuse : ByteArray := prog_1_method_37_code
def yX11_refuse : MethodName := ⟨RX11, "refuse", "(I)I"⟩
abbrev cX11_runPlan : ByteArray := prog_1_method_38_code
def yX11_runPlan : MethodName := ⟨RX11, "runPlan", "(I)I"⟩
abbrev cX11_finishWith : ByteArray := prog_1_method_39_code
def yX11_finishWith : MethodName := ⟨RX11, "finishWith", "(III)I"⟩
abbrev cX11_finishTrying : ByteArray := prog_1_method_40_code
def yX11_finishTrying : MethodName := ⟨RX11, "finishTrying", "(III)I"⟩
abbrev cX11_placeBehind : ByteArray := prog_1_method_41_code
def yX11_placeBehind : MethodName := ⟨RX11, "placeBehind", "(I)I"⟩
abbrev cX11_isPart : ByteArray := prog_1_method_42_code
def yX11_isPart : MethodName := ⟨RX11, "isPart", "(I)Z"⟩
abbrev cX11_refusalOfOdds : ByteArray := prog_1_method_43_code
def yX11_refusalOfOdds : MethodName := ⟨RX11, "refusalOfOdds", "(IIII)I"⟩
abbrev cX11_kindsAsTold : ByteArray := prog_1_method_44_code
def yX11_kindsAsTold : MethodName := ⟨RX11, "kindsAsTold", "(I)I"⟩
abbrev cX11_figuresAsTold : ByteArray := prog_1_method_45_code
def yX11_figuresAsTold : MethodName := ⟨RX11, "figuresAsTold", "(I)I"⟩
abbrev cX11_isAsTold : ByteArray := prog_1_method_46_code
def yX11_isAsTold : MethodName := ⟨RX11, "isAsTold", "(III)Z"⟩
abbrev cX11_raceByLot : ByteArray := prog_1_method_47_code
def yX11_raceByLot : MethodName := ⟨RX11, "raceByLot", "()Z"⟩
def RX12 : String := "WetSuitPedalsShoesModel"
def TX12 : u_T := fun k => match k with
  | 0 => ("WetSuitPedalsShoesModel", "s", "[I", true)
  | 1 => ("WetSuitPedalsShoesModel", "m", "[I", true)
  | 2 => ("WetSuitPedalsShoesModel", "image", "[I", true)
  | 3 => ("WetSuitPedalsShoesModel", "was", "[I", true)
  | 4 => ("WetSuitPedalsShoesModel", "hasImage", "Z", false)
  | 5 => ("WetSuitPedalsShoesModel", "letters", "[I", true)
  | 6 => ("WetSuitPedalsShoesModel", "row", "[I", true)
  | 7 => ("WetSuitPedalsShoesModel", "refused", "[I", true)
  | 8 => ("WetSuitPedalsShoesModel", "letterMany", "I", false)
  | 9 => ("WetSuitPedalsShoesModel", "rowMany", "I", false)
  | 10 => ("WetSuitPedalsShoesModel", "seconds", "[I", true)
  | 11 => ("WetSuitPedalsShoesModel", "legs", "[I", true)
  | 12 => ("WetSuitPedalsShoesModel", "sums", "[I", true)
  | 13 => ("WetSuitPedalsShoesModel", "place", "I", false)
  | 14 => ("WetSuitPedalsShoesModel", "numbers", "[I", true)
  | 15 => ("WetSuitPedalsShoesModel", "numbersMany", "I", false)
  | 16 => ("WetSuitPedalsShoesModel", "own", "[I", true)
  | 17 => ("WetSuitPedalsShoesModel", "fewest", "[I", true)
  | 18 => ("WetSuitPedalsShoesModel", "so", "[I", true)
  | 19 => ("WetSuitPedalsShoesModel", "then", "[I", true)
  | _ => ("WetSuitPedalsShoesModel", "seed", "I", false)
def tyX12 : Nat → FieldType := fun k => match k with
  | 0 => .array .int
  | 1 => .array .int
  | 2 => .array .int
  | 3 => .array .int
  | 4 => .boolean
  | 5 => .array .int
  | 6 => .array .int
  | 7 => .array .int
  | 8 => .int
  | 9 => .int
  | 10 => .array .int
  | 11 => .array .int
  | 12 => .array .int
  | 13 => .int
  | 14 => .array .int
  | 15 => .int
  | 16 => .array .int
  | 17 => .array .int
  | 18 => .array .int
  | 19 => .array .int
  | _ => .int
abbrev wsX120 : List Cond := u_ws RX12 TX12 21
theorem nmX12 : ∀ a, a < 21 → ∀ b, b < 21 → a ≠ b → (TX12 a).2.1 ≠ (TX12 b).2.1 := by decide +kernel
theorem tyX12_ok : ∀ k, k < 21 → parseFieldDescriptor (TX12 k).2.2.1 = some (tyX12 k) := by decide +kernel
abbrev cX12_init : ByteArray := prog_14_method_1_code
def yX12_init : MethodName := ⟨RX12, "<init>", "()V"⟩
abbrev cX12_isIn : ByteArray := prog_14_method_2_code
def yX12_isIn : MethodName := ⟨RX12, "isIn", "(III)Z"⟩
abbrev cX12_least : ByteArray := prog_14_method_3_code
def yX12_least : MethodName := ⟨RX12, "least", "(II)I"⟩
abbrev cX12_most : ByteArray := prog_14_method_4_code
def yX12_most : MethodName := ⟨RX12, "most", "(II)I"⟩
abbrev cX12_lays : ByteArray := prog_14_method_5_code
def yX12_lays : MethodName := ⟨RX12, "lays", "([I[I)V"⟩
abbrev cX12_no : ByteArray := prog_14_method_6_code
def yX12_no : MethodName := ⟨RX12, "no", "(I)I"⟩
abbrev cX12_noFar : ByteArray := prog_14_method_7_code
def yX12_noFar : MethodName := ⟨RX12, "noFar", "(I)I"⟩
abbrev cX12_noWide : ByteArray := prog_14_method_8_code
def yX12_noWide : MethodName := ⟨RX12, "noWide", "(I)J"⟩
abbrev cX12_of : ByteArray := prog_14_method_9_code
def yX12_of : MethodName := ⟨RX12, "of", "(II)I"⟩
abbrev cX12_athleteAt : ByteArray := prog_14_method_10_code
def yX12_athleteAt : MethodName := ⟨RX12, "athleteAt", "(II)I"⟩
abbrev cX12_tried : ByteArray := prog_14_method_11_code
def yX12_tried : MethodName := ⟨RX12, "tried", "(II)I"⟩
abbrev cX12_isSection : ByteArray := prog_14_method_12_code
def yX12_isSection : MethodName := ⟨RX12, "isSection", "(I)Z"⟩
abbrev cX12_isAthlete : ByteArray := prog_14_method_13_code
def yX12_isAthlete : MethodName := ⟨RX12, "isAthlete", "(I)Z"⟩
abbrev cX12_isRide : ByteArray := prog_14_method_14_code
def yX12_isRide : MethodName := ⟨RX12, "isRide", "([II)Z"⟩
abbrev cX12_takes : ByteArray := prog_14_method_15_code
def yX12_takes : MethodName := ⟨RX12, "takes", "([II)I"⟩
abbrev cX12_plain : ByteArray := prog_14_method_16_code
def yX12_plain : MethodName := ⟨RX12, "plain", "([III)I"⟩
abbrev cX12_secondsBy : ByteArray := prog_14_method_17_code
def yX12_secondsBy : MethodName := ⟨RX12, "secondsBy", "([IIIII)I"⟩
abbrev cX12_legsBehind : ByteArray := prog_14_method_18_code
def yX12_legsBehind : MethodName := ⟨RX12, "legsBehind", "([IIII)I"⟩
abbrev cX12_goes : ByteArray := prog_14_method_19_code
def yX12_goes : MethodName := ⟨RX12, "goes", "([III)I"⟩
abbrev cX12_finishOf : ByteArray := prog_14_method_20_code
def yX12_finishOf : MethodName := ⟨RX12, "finishOf", "([II)I"⟩
abbrev cX12_letter : ByteArray := prog_14_method_21_code
def yX12_letter : MethodName := ⟨RX12, "letter", "(I)I"⟩
abbrev cX12_here : ByteArray := prog_14_method_22_code
def yX12_here : MethodName := ⟨RX12, "here", "()I"⟩
abbrev cX12_readsDigit : ByteArray := prog_14_method_23_code
def yX12_readsDigit : MethodName := ⟨RX12, "readsDigit", "()Z"⟩
abbrev cX12_readsDigits : ByteArray := prog_14_method_24_code
def yX12_readsDigits : MethodName := ⟨RX12, "readsDigits", "(I)Z"⟩
abbrev cX12_kindBy : ByteArray := prog_14_method_25_code
def yX12_kindBy : MethodName := ⟨RX12, "kindBy", "(I)I"⟩
abbrev cX12_readsKind : ByteArray := prog_14_method_26_code
def yX12_readsKind : MethodName := ⟨RX12, "readsKind", "()Z"⟩
abbrev cX12_readsPlan : ByteArray := prog_14_method_27_code
def yX12_readsPlan : MethodName := ⟨RX12, "readsPlan", "()Z"⟩
abbrev cX12_readsStatement : ByteArray := prog_14_method_28_code
def yX12_readsStatement : MethodName := ⟨RX12, "readsStatement", "()Z"⟩
abbrev cX12_changes : ByteArray := prog_14_method_29_code
def yX12_changes : MethodName := ⟨RX12, "changes", "(II[I)V"⟩
abbrev cX12_isDone : ByteArray := prog_14_method_30_code
def yX12_isDone : MethodName := ⟨RX12, "isDone", "(I)Z"⟩
abbrev cX12_race : ByteArray := prog_14_method_31_code
def yX12_race : MethodName := ⟨RX12, "race", "()I"⟩
abbrev cX12_section : ByteArray := prog_14_method_32_code
def yX12_section : MethodName := ⟨RX12, "section", "(II)I"⟩
abbrev cX12_athlete : ByteArray := prog_14_method_33_code
def yX12_athlete : MethodName := ⟨RX12, "athlete", "(II)I"⟩
abbrev cX12_tries : ByteArray := prog_14_method_34_code
def yX12_tries : MethodName := ⟨RX12, "tries", "(II)I"⟩
abbrev cX12_turn : ByteArray := prog_14_method_35_code
def yX12_turn : MethodName := ⟨RX12, "turn", "(III)I"⟩
abbrev cX12_swap : ByteArray := prog_14_method_36_code
def yX12_swap : MethodName := ⟨RX12, "swap", "(II)I"⟩
abbrev cX12_skill : ByteArray := prog_14_method_37_code
def yX12_skill : MethodName := ⟨RX12, "skill", "(III)I"⟩
abbrev cX12_tryHard : ByteArray := prog_14_method_38_code
def yX12_tryHard : MethodName := ⟨RX12, "tryHard", "(III)I"⟩
abbrev cX12_by : ByteArray := prog_14_method_39_code
def yX12_by : MethodName := ⟨RX12, "by", "(III)I"⟩
abbrev cX12_finish : ByteArray := prog_14_method_40_code
def yX12_finish : MethodName := ⟨RX12, "finish", "(II)I"⟩
abbrev cX12_at : ByteArray := prog_14_method_41_code
def yX12_at : MethodName := ⟨RX12, "at", "(II)I"⟩
abbrev cX12_overtakes : ByteArray := prog_14_method_42_code
def yX12_overtakes : MethodName := ⟨RX12, "overtakes", "(III)I"⟩
abbrev cX12_findsPlans : ByteArray := prog_14_method_43_code
def yX12_findsPlans : MethodName := ⟨RX12, "findsPlans", "(I)V"⟩
abbrev cX12_withTries : ByteArray := prog_14_method_44_code
def yX12_withTries : MethodName := ⟨RX12, "withTries", "(IIII)I"⟩
abbrev cX12_bestPlan : ByteArray := prog_14_method_45_code
def yX12_bestPlan : MethodName := ⟨RX12, "bestPlan", "(II)I"⟩
abbrev cX12_hardest : ByteArray := prog_14_method_46_code
def yX12_hardest : MethodName := ⟨RX12, "hardest", "(I)I"⟩
abbrev cX12_leastTries : ByteArray := prog_14_method_47_code
def yX12_leastTries : MethodName := ⟨RX12, "leastTries", "(II)I"⟩
abbrev cX12_drink : ByteArray := prog_14_method_48_code
def yX12_drink : MethodName := ⟨RX12, "drink", "(II)I"⟩
abbrev cX12_finishWith : ByteArray := prog_14_method_49_code
def yX12_finishWith : MethodName := ⟨RX12, "finishWith", "(III)I"⟩
abbrev cX12_train : ByteArray := prog_14_method_50_code
def yX12_train : MethodName := ⟨RX12, "train", "(II)I"⟩
abbrev cX12_weakest : ByteArray := prog_14_method_51_code
def yX12_weakest : MethodName := ⟨RX12, "weakest", "(I)I"⟩
abbrev cX12_meadow : ByteArray := prog_14_method_52_code
def yX12_meadow : MethodName := ⟨RX12, "meadow", "(II)I"⟩
abbrev cX12_leave : ByteArray := prog_14_method_53_code
def yX12_leave : MethodName := ⟨RX12, "leave", "(II)I"⟩
abbrev cX12_order : ByteArray := prog_14_method_54_code
def yX12_order : MethodName := ⟨RX12, "order", "(I)I"⟩
abbrev cX12_ridesMany : ByteArray := prog_14_method_55_code
def yX12_ridesMany : MethodName := ⟨RX12, "ridesMany", "()I"⟩
abbrev cX12_gcd : ByteArray := prog_14_method_56_code
def yX12_gcd : MethodName := ⟨RX12, "gcd", "(JJ)J"⟩
abbrev cX12_partOf : ByteArray := prog_14_method_57_code
def yX12_partOf : MethodName := ⟨RX12, "partOf", "(JJI)J"⟩
abbrev cX12_puncture : ByteArray := prog_14_method_58_code
def yX12_puncture : MethodName := ⟨RX12, "puncture", "(IIIII)J"⟩
abbrev cX12_mean : ByteArray := prog_14_method_59_code
def yX12_mean : MethodName := ⟨RX12, "mean", "(IIII)J"⟩
abbrev cX12_tube : ByteArray := prog_14_method_60_code
def yX12_tube : MethodName := ⟨RX12, "tube", "(III)I"⟩
abbrev cX12_draw : ByteArray := prog_14_method_61_code
def yX12_draw : MethodName := ⟨RX12, "draw", "(II)I"⟩
abbrev cX12_finishAgainst : ByteArray := prog_14_method_62_code
def yX12_finishAgainst : MethodName := ⟨RX12, "finishAgainst", "(IIII)I"⟩
abbrev cX12_two : ByteArray := prog_14_method_63_code
def yX12_two : MethodName := ⟨RX12, "two", "(III)I"⟩
abbrev cX12_whatWas : ByteArray := prog_14_method_64_code
def yX12_whatWas : MethodName := ⟨RX12, "whatWas", "(II)I"⟩
abbrev cX12_row : ByteArray := prog_14_method_65_code
def yX12_row : MethodName := ⟨RX12, "row", "(I)I"⟩
abbrev cX12_judge : ByteArray := prog_14_method_66_code
def yX12_judge : MethodName := ⟨RX12, "judge", "(I)I"⟩
abbrev cX12_clear : ByteArray := prog_14_method_67_code
def yX12_clear : MethodName := ⟨RX12, "clear", "()I"⟩
abbrev cX12_drawn : ByteArray := prog_14_method_68_code
def yX12_drawn : MethodName := ⟨RX12, "drawn", "(I)I"⟩
abbrev cX12_lots : ByteArray := prog_14_method_69_code
def yX12_lots : MethodName := ⟨RX12, "lots", "(III)I"⟩
abbrev cX12_image : ByteArray := prog_14_method_70_code
def yX12_image : MethodName := ⟨RX12, "image", "()I"⟩
abbrev cX12_on : ByteArray := prog_14_method_71_code
def yX12_on : MethodName := ⟨RX12, "on", "()I"⟩
abbrev cX12_count : ByteArray := prog_14_method_72_code
def yX12_count : MethodName := ⟨RX12, "count", "(I)I"⟩
def RJ9 : String := "java/lang/Math"
def TJ9 : u_T := fun k => match k with
  | _ => ("", "", "", false)
def tyJ9 : Nat → FieldType := fun k => match k with
  | _ => .int
abbrev wsJ90 : List Cond := u_ws RJ9 TJ9 0
theorem nmJ9 : ∀ a, a < 0 → ∀ b, b < 0 → a ≠ b → (TJ9 a).2.1 ≠ (TJ9 b).2.1 := by decide +kernel
theorem tyJ9_ok : ∀ k, k < 0 → parseFieldDescriptor (TJ9 k).2.2.1 = some (tyJ9 k) := by decide +kernel
abbrev cJ9_max_7cf53 : ByteArray := prog_15_method_65_code
def yJ9_max_7cf53 : MethodName := ⟨RJ9, "max", "(II)I"⟩
abbrev cJ9_min_7cf53 : ByteArray := prog_15_method_69_code
def yJ9_min_7cf53 : MethodName := ⟨RJ9, "min", "(II)I"⟩
def RJ10 : String := "java/lang/System"
def TJ10 : u_T := fun k => match k with
  | _ => ("", "", "", false)
def tyJ10 : Nat → FieldType := fun k => match k with
  | _ => .int
abbrev wsJ100 : List Cond := u_ws RJ10 TJ10 0
theorem nmJ10 : ∀ a, a < 0 → ∀ b, b < 0 → a ≠ b → (TJ10 a).2.1 ≠ (TJ10 b).2.1 := by decide +kernel
theorem tyJ10_ok : ∀ k, k < 0 → parseFieldDescriptor (TJ10 k).2.2.1 = some (tyJ10 k) := by decide +kernel
def RL : String := "WetSuitPedalsShoesLaw"
abbrev cL_law : ByteArray := code
def wsX0_init : List Cond := .code yX0_init cX0_init 1 none :: ([.methodLink RX0 3 objectInit, .instanceMethod objectInit, .code objectInit ⟨#[0xb1]⟩ 1 none, .arrayClass .int, .fieldLink RX0 9 "WetSuitPedalsShoes$Athlete" "able" "[I", .fieldLink RX0 15 "WetSuitPedalsShoes$Athlete" "tries" "[I"] ++ wsX00)
def wsX0_start : List Cond := .code yX0_start cX0_start 6 none :: ([.fieldLink RX0 9 "WetSuitPedalsShoes$Athlete" "able" "[I", .fieldLink RX0 15 "WetSuitPedalsShoes$Athlete" "tries" "[I"] ++ wsX00)
def wsX0_become : List Cond := .code yX0_become cX0_become 2 none :: ([.fieldLink RX0 9 "WetSuitPedalsShoes$Athlete" "able" "[I", .methodLink RX0 18 arraycopyName, .native arraycopyName, .static arraycopyName, .initialized "java/lang/System", .fieldLink RX0 15 "WetSuitPedalsShoes$Athlete" "tries" "[I"] ++ wsX00)
def wsX1_init : List Cond := .code yX1_init cX1_init 1 none :: ([.methodLink RX1 3 objectInit, .instanceMethod objectInit, .code objectInit ⟨#[0xb1]⟩ 1 none, .fieldLink RX1 9 "WetSuitPedalsShoes$Course" "many" "I", .arrayClass .int, .fieldLink RX1 15 "WetSuitPedalsShoes$Course" "kind" "[I", .fieldLink RX1 19 "WetSuitPedalsShoes$Course" "figure" "[I", .fieldLink RX1 22 "WetSuitPedalsShoes$Course" "length" "[I"] ++ wsX10)
def wsX1_has : List Cond := .code yX1_has cX1_has 2 (some .boolean) :: ([.fieldLink RX1 9 "WetSuitPedalsShoes$Course" "many" "I"] ++ wsX10)
def wsX1_add : List Cond := .code yX1_add cX1_add 4 none :: ([.fieldLink RX1 9 "WetSuitPedalsShoes$Course" "many" "I", .fieldLink RX1 15 "WetSuitPedalsShoes$Course" "kind" "[I", .fieldLink RX1 19 "WetSuitPedalsShoes$Course" "figure" "[I", .fieldLink RX1 22 "WetSuitPedalsShoes$Course" "length" "[I"] ++ wsX10)
def wsX1_become : List Cond := .code yX1_become cX1_become 2 none :: ([.fieldLink RX1 9 "WetSuitPedalsShoes$Course" "many" "I", .fieldLink RX1 15 "WetSuitPedalsShoes$Course" "kind" "[I", .methodLink RX1 25 arraycopyName, .native arraycopyName, .static arraycopyName, .initialized "java/lang/System", .fieldLink RX1 19 "WetSuitPedalsShoes$Course" "figure" "[I", .fieldLink RX1 22 "WetSuitPedalsShoes$Course" "length" "[I"] ++ wsX10)
def wsX1_become_ : List Cond := .code yX1_become_ cX1_become_ 4 none :: ([.fieldLink RX1 15 "WetSuitPedalsShoes$Course" "kind" "[I", .fieldLink RX1 19 "WetSuitPedalsShoes$Course" "figure" "[I", .methodLink RX1 31 yX1_has, .instanceMethod yX1_has, .selects RX1 yX1_has yX1_has, .initialized RX1, .code yX1_has cX1_has 2 (some .boolean), .fieldLink RX1 9 "WetSuitPedalsShoes$Course" "many" "I"] ++ wsX10)
def wsX1_exchange_ : List Cond := .code yX1_exchange_ cX1_exchange_ 4 none :: ([])
def wsX1_exchange : List Cond := .code yX1_exchange cX1_exchange 3 none :: ([.fieldLink RX1 15 "WetSuitPedalsShoes$Course" "kind" "[I", .fieldLink RX1 19 "WetSuitPedalsShoes$Course" "figure" "[I", .fieldLink RX1 22 "WetSuitPedalsShoes$Course" "length" "[I", .methodLink RX1 31 yX1_has, .instanceMethod yX1_has, .selects RX1 yX1_has yX1_has, .initialized RX1, .code yX1_has cX1_has 2 (some .boolean), .fieldLink RX1 9 "WetSuitPedalsShoes$Course" "many" "I", .methodLink RX1 35 yX1_exchange_, .static yX1_exchange_, .code yX1_exchange_ cX1_exchange_ 4 none] ++ wsX10)
def wsX1_remove : List Cond := .code yX1_remove cX1_remove 3 none :: ([.fieldLink RX1 9 "WetSuitPedalsShoes$Course" "many" "I", .fieldLink RX1 15 "WetSuitPedalsShoes$Course" "kind" "[I", .fieldLink RX1 19 "WetSuitPedalsShoes$Course" "figure" "[I", .fieldLink RX1 22 "WetSuitPedalsShoes$Course" "length" "[I", .methodLink RX1 31 yX1_has, .instanceMethod yX1_has, .selects RX1 yX1_has yX1_has, .initialized RX1, .code yX1_has cX1_has 2 (some .boolean)] ++ wsX10)
def wsX4_isRide : List Cond := .code yX4_isRide cX4_isRide 1 (some .boolean) :: ([])
def wsX1_isBehindRide : List Cond := .code yX1_isBehindRide cX1_isBehindRide 2 (some .boolean) :: ([.fieldLink RX1 15 "WetSuitPedalsShoes$Course" "kind" "[I", .methodLink RX1 47 yX4_isRide, .static yX4_isRide, .initialized RX4, .code yX4_isRide cX4_isRide 1 (some .boolean)] ++ wsX10)
def wsX1_untried : List Cond := .code yX1_untried cX1_untried 6 (some .int) :: ([.fieldLink RX1 22 "WetSuitPedalsShoes$Course" "length" "[I", .fieldLink RX1 19 "WetSuitPedalsShoes$Course" "figure" "[I", .fieldLink RX1 15 "WetSuitPedalsShoes$Course" "kind" "[I", .fieldLink RX1 39 "WetSuitPedalsShoes$Athlete" "able" "[I", .methodLink RX1 44 yX1_isBehindRide, .instanceMethod yX1_isBehindRide, .selects RX1 yX1_isBehindRide yX1_isBehindRide, .initialized RX1, .code yX1_isBehindRide cX1_isBehindRide 2 (some .boolean), .methodLink RX1 47 yX4_isRide, .static yX4_isRide, .initialized RX4, .code yX4_isRide cX4_isRide 1 (some .boolean)] ++ wsX10 ++ wsX00)
def wsX1_lengths : List Cond := .code yX1_lengths cX1_lengths 3 (some .int) :: ([.fieldLink RX1 9 "WetSuitPedalsShoes$Course" "many" "I", .fieldLink RX1 22 "WetSuitPedalsShoes$Course" "length" "[I"] ++ wsX10)
def wsX1_changes : List Cond := .code yX1_changes cX1_changes 3 (some .int) :: ([.fieldLink RX1 9 "WetSuitPedalsShoes$Course" "many" "I", .fieldLink RX1 15 "WetSuitPedalsShoes$Course" "kind" "[I"] ++ wsX10)
def wsX1_rides : List Cond := .code yX1_rides cX1_rides 3 (some .int) :: ([.fieldLink RX1 9 "WetSuitPedalsShoes$Course" "many" "I", .fieldLink RX1 15 "WetSuitPedalsShoes$Course" "kind" "[I", .methodLink RX1 47 yX4_isRide, .static yX4_isRide, .initialized RX4, .code yX4_isRide cX4_isRide 1 (some .boolean)] ++ wsX10)
def wsX2_init : List Cond := .code yX2_init cX2_init 1 none :: ([.methodLink RX2 3 objectInit, .instanceMethod objectInit, .code objectInit ⟨#[0xb1]⟩ 1 none, .arrayClass .int, .fieldLink RX2 9 "WetSuitPedalsShoes$Duel" "first" "[I", .fieldLink RX2 15 "WetSuitPedalsShoes$Duel" "second" "[I"] ++ wsX20)
def wsX2_hindered : List Cond := .code yX2_hindered cX2_hindered 3 (some .int) :: ([])
def wsX2_isBestAgainst : List Cond := .code yX2_isBestAgainst cX2_isBestAgainst 5 (some .boolean) :: ([.methodLink RX2 22 yX2_hindered, .static yX2_hindered, .initialized RX2, .code yX2_hindered cX2_hindered 3 (some .int)])
def wsX2_settled : List Cond := .code yX2_settled cX2_settled 3 (some .int) :: ([.fieldLink RX2 9 "WetSuitPedalsShoes$Duel" "first" "[I", .fieldLink RX2 15 "WetSuitPedalsShoes$Duel" "second" "[I", .methodLink RX2 18 yX2_isBestAgainst, .static yX2_isBestAgainst, .initialized RX2, .code yX2_isBestAgainst cX2_isBestAgainst 5 (some .boolean), .methodLink RX2 22 yX2_hindered, .static yX2_hindered, .code yX2_hindered cX2_hindered 3 (some .int)] ++ wsX20)
def wsX3_init_r1 : List Cond := [Cond.methodLink RX3 3 objectInit, Cond.instanceMethod objectInit, Cond.code objectInit ⟨#[0xb1]⟩ 1 none, Cond.classLink RX3 9 RX1, Cond.instantiable RX1 4, Cond.initialized RX1, Cond.fieldLink RX3 12 "WetSuitPedalsShoes$Field" "course" "LWetSuitPedalsShoes$Course;", Cond.classLink RX3 18 RX0, Cond.fieldLink RX3 20 "WetSuitPedalsShoes$Field" "athletes" "[LWetSuitPedalsShoes$Athlete;", Cond.fieldLink RX3 24 "WetSuitPedalsShoes$Field" "many" "I", Cond.instantiable RX0 2, Cond.initialized RX0, Cond.instanceMethod yX1_init, Cond.code yX1_init cX1_init 1 none, Cond.methodLink RX1 3 objectInit, Cond.fieldLink RX1 9 "WetSuitPedalsShoes$Course" "many" "I", Cond.arrayClass .int, Cond.fieldLink RX1 15 "WetSuitPedalsShoes$Course" "kind" "[I", Cond.fieldLink RX1 19 "WetSuitPedalsShoes$Course" "figure" "[I", Cond.fieldLink RX1 22 "WetSuitPedalsShoes$Course" "length" "[I", Cond.instanceMethod yX0_init, Cond.code yX0_init cX0_init 1 none, Cond.methodLink RX0 3 objectInit, Cond.fieldLink RX0 9 "WetSuitPedalsShoes$Athlete" "able" "[I"]
def wsX3_init_r2 : List Cond := [Cond.fieldLink RX0 15 "WetSuitPedalsShoes$Athlete" "tries" "[I"]
def wsX3_init : List Cond := .code yX3_init cX3_init 2 none :: ((wsX3_init_r1 ++ wsX3_init_r2) ++ wsX10 ++ wsX30 ++ wsX00)
def wsX3_has : List Cond := .code yX3_has cX3_has 2 (some .boolean) :: ([.fieldLink RX3 24 "WetSuitPedalsShoes$Field" "many" "I"] ++ wsX30)
def wsX3_add : List Cond := .code yX3_add cX3_add 5 none :: ([.fieldLink RX3 24 "WetSuitPedalsShoes$Field" "many" "I", .fieldLink RX3 20 "WetSuitPedalsShoes$Field" "athletes" "[LWetSuitPedalsShoes$Athlete;", .methodLink RX3 29 yX0_start, .instanceMethod yX0_start, .selects RX0 yX0_start yX0_start, .initialized RX0, .code yX0_start cX0_start 6 none, .fieldLink RX0 9 "WetSuitPedalsShoes$Athlete" "able" "[I", .fieldLink RX0 15 "WetSuitPedalsShoes$Athlete" "tries" "[I"] ++ wsX30 ++ wsX00)
def wsX3_planTries : List Cond := .code yX3_planTries cX3_planTries 4 none :: ([.fieldLink RX3 20 "WetSuitPedalsShoes$Field" "athletes" "[LWetSuitPedalsShoes$Athlete;", .fieldLink RX3 37 "WetSuitPedalsShoes$Athlete" "tries" "[I", .methodLink RX3 33 yX3_has, .instanceMethod yX3_has, .selects RX3 yX3_has yX3_has, .initialized RX3, .code yX3_has cX3_has 2 (some .boolean), .fieldLink RX3 24 "WetSuitPedalsShoes$Field" "many" "I"] ++ wsX30 ++ wsX00)
def wsX3_become : List Cond := .code yX3_become cX3_become 3 none :: ([.fieldLink RX3 12 "WetSuitPedalsShoes$Field" "course" "LWetSuitPedalsShoes$Course;", .fieldLink RX3 24 "WetSuitPedalsShoes$Field" "many" "I", .fieldLink RX3 20 "WetSuitPedalsShoes$Field" "athletes" "[LWetSuitPedalsShoes$Athlete;", .methodLink RX3 41 yX1_become, .instanceMethod yX1_become, .selects RX1 yX1_become yX1_become, .initialized RX1, .code yX1_become cX1_become 2 none, .fieldLink RX1 9 "WetSuitPedalsShoes$Course" "many" "I", .fieldLink RX1 15 "WetSuitPedalsShoes$Course" "kind" "[I", .methodLink RX1 25 arraycopyName, .native arraycopyName, .static arraycopyName, .initialized "java/lang/System", .fieldLink RX1 19 "WetSuitPedalsShoes$Course" "figure" "[I", .fieldLink RX1 22 "WetSuitPedalsShoes$Course" "length" "[I", .methodLink RX3 45 yX0_become, .instanceMethod yX0_become, .selects RX0 yX0_become yX0_become, .initialized RX0, .code yX0_become cX0_become 2 none, .fieldLink RX0 9 "WetSuitPedalsShoes$Athlete" "able" "[I", .methodLink RX0 18 arraycopyName, .fieldLink RX0 15 "WetSuitPedalsShoes$Athlete" "tries" "[I"] ++ wsX30 ++ wsX10 ++ wsX00)
def wsX3_allTries : List Cond := .code yX3_allTries cX3_allTries 4 (some .int) :: ([.fieldLink RX3 24 "WetSuitPedalsShoes$Field" "many" "I", .fieldLink RX3 12 "WetSuitPedalsShoes$Field" "course" "LWetSuitPedalsShoes$Course;", .fieldLink RX3 48 "WetSuitPedalsShoes$Course" "many" "I", .fieldLink RX3 20 "WetSuitPedalsShoes$Field" "athletes" "[LWetSuitPedalsShoes$Athlete;", .fieldLink RX3 37 "WetSuitPedalsShoes$Athlete" "tries" "[I"] ++ wsX30 ++ wsX10 ++ wsX00)
def wsX4_ofLetter : List Cond := .code yX4_ofLetter cX4_ofLetter 1 (some .int) :: ([])
def wsX4_takes : List Cond := .code yX4_takes cX4_takes 1 (some .int) :: ([])
def wsX4_secondsTrying : List Cond := .code yX4_secondsTrying cX4_secondsTrying 3 (some .int) :: ([])
def wsX4_legsBehind : List Cond := .code yX4_legsBehind cX4_legsBehind 5 (some .int) :: ([.methodLink RX4 15 Lib.Math.max.name, .static Lib.Math.max.name, .initialized "java/lang/Math", .code Lib.Math.max.name Lib.Math.max.code 2 (some .int), .methodLink RX4 21 Lib.Math.min.name, .static Lib.Math.min.name, .code Lib.Math.min.name Lib.Math.min.code 2 (some .int), .methodLink RX4 11 yX4_takes, .static yX4_takes, .initialized RX4, .code yX4_takes cX4_takes 1 (some .int)])
def wsX5_init : List Cond := .code yX5_init cX5_init 1 none :: ([.methodLink RX5 1 objectInit, .instanceMethod objectInit, .code objectInit ⟨#[0xb1]⟩ 1 none, .fieldLink RX5 7 "WetSuitPedalsShoes$Lots" "seed" "I", .fieldLink RX5 13 "WetSuitPedalsShoes$Lots" "finishOfFirst" "I"] ++ wsX50)
def wsX5_below : List Cond := .code yX5_below cX5_below 2 (some .int) :: ([.fieldLink RX5 7 "WetSuitPedalsShoes$Lots" "seed" "I", .constant RX5 16 (1664525), .constant RX5 17 (1013904223), .constant RX5 18 (2147483647)] ++ wsX50)
def wsX6_power : List Cond := .code yX6_power cX6_power 6 (some .long) :: ([])
def wsX6_waysWithin : List Cond := .code yX6_waysWithin cX6_waysWithin 9 (some .long) :: ([.methodLink RX6 7 yX6_power, .static yX6_power, .initialized RX6, .code yX6_power cX6_power 6 (some .long)])
def wsX6_commonDivisor : List Cond := .code yX6_commonDivisor cX6_commonDivisor 11 (some .long) :: ([])
def wsX6_partInLeastTerms : List Cond := .code yX6_partInLeastTerms cX6_partInLeastTerms 7 (some .long) :: ([.methodLink RX6 13 yX6_commonDivisor, .static yX6_commonDivisor, .initialized RX6, .code yX6_commonDivisor cX6_commonDivisor 11 (some .long)])
def wsX7_init : List Cond := .code yX7_init cX7_init 1 none :: ([.methodLink RX7 3 objectInit, .instanceMethod objectInit, .code objectInit ⟨#[0xb1]⟩ 1 none, .fieldLink RX7 9 "WetSuitPedalsShoes$Planner" "many" "I", .fieldLink RX7 15 "WetSuitPedalsShoes$Planner" "legsAtStart" "I", .arrayClass .int, .fieldLink RX7 18 "WetSuitPedalsShoes$Planner" "kind" "[I", .fieldLink RX7 22 "WetSuitPedalsShoes$Planner" "length" "[I", .fieldLink RX7 25 "WetSuitPedalsShoes$Planner" "untried" "[I", .classLink RX7 28 "[[I", .fieldLink RX7 30 "WetSuitPedalsShoes$Planner" "toCome" "[[I", .fieldLink RX7 33 "WetSuitPedalsShoes$Planner" "reached" "[I", .fieldLink RX7 36 "WetSuitPedalsShoes$Planner" "next" "[I"] ++ wsX70)
def wsX7_look_r1 : List Cond := [Cond.fieldLink RX7 39 "WetSuitPedalsShoes$Course" "many" "I", Cond.fieldLink RX7 9 "WetSuitPedalsShoes$Planner" "many" "I", Cond.fieldLink RX7 42 "WetSuitPedalsShoes$Athlete" "able" "[I", Cond.fieldLink RX7 15 "WetSuitPedalsShoes$Planner" "legsAtStart" "I", Cond.fieldLink RX7 18 "WetSuitPedalsShoes$Planner" "kind" "[I", Cond.fieldLink RX7 47 "WetSuitPedalsShoes$Course" "kind" "[I", Cond.fieldLink RX7 22 "WetSuitPedalsShoes$Planner" "length" "[I", Cond.fieldLink RX7 48 "WetSuitPedalsShoes$Course" "length" "[I", Cond.fieldLink RX7 25 "WetSuitPedalsShoes$Planner" "untried" "[I", Cond.methodLink RX7 49 yX1_untried, Cond.instanceMethod yX1_untried, Cond.selects RX1 yX1_untried yX1_untried, Cond.initialized RX1, Cond.code yX1_untried cX1_untried 6 (some .int), Cond.fieldLink RX1 22 "WetSuitPedalsShoes$Course" "length" "[I", Cond.fieldLink RX1 19 "WetSuitPedalsShoes$Course" "figure" "[I", Cond.fieldLink RX1 15 "WetSuitPedalsShoes$Course" "kind" "[I", Cond.fieldLink RX1 39 "WetSuitPedalsShoes$Athlete" "able" "[I", Cond.methodLink RX1 44 yX1_isBehindRide, Cond.instanceMethod yX1_isBehindRide, Cond.selects RX1 yX1_isBehindRide yX1_isBehindRide, Cond.code yX1_isBehindRide cX1_isBehindRide 2 (some .boolean), Cond.methodLink RX1 47 yX4_isRide, Cond.static yX4_isRide]
def wsX7_look_r2 : List Cond := [Cond.initialized RX4, Cond.code yX4_isRide cX4_isRide 1 (some .boolean)]
def wsX7_look : List Cond := .code yX7_look cX7_look 4 none :: ((wsX7_look_r1 ++ wsX7_look_r2) ++ wsX10 ++ wsX70 ++ wsX00)
def wsX7_secondsFrom : List Cond := .code yX7_secondsFrom cX7_secondsFrom 5 (some .int) :: ([.fieldLink RX7 18 "WetSuitPedalsShoes$Planner" "kind" "[I", .fieldLink RX7 22 "WetSuitPedalsShoes$Planner" "length" "[I", .fieldLink RX7 25 "WetSuitPedalsShoes$Planner" "untried" "[I", .fieldLink RX7 30 "WetSuitPedalsShoes$Planner" "toCome" "[[I", .methodLink RX7 52 yX4_legsBehind, .static yX4_legsBehind, .initialized RX4, .code yX4_legsBehind cX4_legsBehind 5 (some .int), .methodLink RX4 15 Lib.Math.max.name, .static Lib.Math.max.name, .initialized "java/lang/Math", .code Lib.Math.max.name Lib.Math.max.code 2 (some .int), .methodLink RX4 21 Lib.Math.min.name, .static Lib.Math.min.name, .code Lib.Math.min.name Lib.Math.min.code 2 (some .int), .methodLink RX4 11 yX4_takes, .static yX4_takes, .code yX4_takes cX4_takes 1 (some .int), .methodLink RX7 58 yX4_secondsTrying, .static yX4_secondsTrying, .code yX4_secondsTrying cX4_secondsTrying 3 (some .int)] ++ wsX70)
def wsX7_easiestBest_r1 : List Cond := [Cond.methodLink RX7 62 yX7_secondsFrom, Cond.instanceMethod yX7_secondsFrom, Cond.selects RX7 yX7_secondsFrom yX7_secondsFrom, Cond.initialized RX7, Cond.code yX7_secondsFrom cX7_secondsFrom 5 (some .int), Cond.fieldLink RX7 18 "WetSuitPedalsShoes$Planner" "kind" "[I", Cond.fieldLink RX7 22 "WetSuitPedalsShoes$Planner" "length" "[I", Cond.fieldLink RX7 25 "WetSuitPedalsShoes$Planner" "untried" "[I", Cond.fieldLink RX7 30 "WetSuitPedalsShoes$Planner" "toCome" "[[I", Cond.methodLink RX7 52 yX4_legsBehind, Cond.static yX4_legsBehind, Cond.initialized RX4, Cond.code yX4_legsBehind cX4_legsBehind 5 (some .int), Cond.methodLink RX4 15 Lib.Math.max.name, Cond.static Lib.Math.max.name, Cond.initialized "java/lang/Math", Cond.code Lib.Math.max.name Lib.Math.max.code 2 (some .int), Cond.methodLink RX4 21 Lib.Math.min.name, Cond.static Lib.Math.min.name, Cond.code Lib.Math.min.name Lib.Math.min.code 2 (some .int), Cond.methodLink RX4 11 yX4_takes, Cond.static yX4_takes, Cond.code yX4_takes cX4_takes 1 (some .int), Cond.methodLink RX7 58 yX4_secondsTrying]
def wsX7_easiestBest_r2 : List Cond := [Cond.static yX4_secondsTrying, Cond.code yX4_secondsTrying cX4_secondsTrying 3 (some .int)]
def wsX7_easiestBest : List Cond := .code yX7_easiestBest cX7_easiestBest 5 (some .int) :: ((wsX7_easiestBest_r1 ++ wsX7_easiestBest_r2) ++ wsX70)
def wsX7_leastFinish_r1 : List Cond := [Cond.fieldLink RX7 30 "WetSuitPedalsShoes$Planner" "toCome" "[[I", Cond.fieldLink RX7 9 "WetSuitPedalsShoes$Planner" "many" "I", Cond.fieldLink RX7 15 "WetSuitPedalsShoes$Planner" "legsAtStart" "I", Cond.methodLink RX7 65 yX7_easiestBest, Cond.instanceMethod yX7_easiestBest, Cond.selects RX7 yX7_easiestBest yX7_easiestBest, Cond.initialized RX7, Cond.code yX7_easiestBest cX7_easiestBest 5 (some .int), Cond.methodLink RX7 62 yX7_secondsFrom, Cond.instanceMethod yX7_secondsFrom, Cond.selects RX7 yX7_secondsFrom yX7_secondsFrom, Cond.code yX7_secondsFrom cX7_secondsFrom 5 (some .int), Cond.fieldLink RX7 18 "WetSuitPedalsShoes$Planner" "kind" "[I", Cond.fieldLink RX7 22 "WetSuitPedalsShoes$Planner" "length" "[I", Cond.fieldLink RX7 25 "WetSuitPedalsShoes$Planner" "untried" "[I", Cond.methodLink RX7 52 yX4_legsBehind, Cond.static yX4_legsBehind, Cond.initialized RX4, Cond.code yX4_legsBehind cX4_legsBehind 5 (some .int), Cond.methodLink RX4 15 Lib.Math.max.name, Cond.static Lib.Math.max.name, Cond.initialized "java/lang/Math", Cond.code Lib.Math.max.name Lib.Math.max.code 2 (some .int), Cond.methodLink RX4 21 Lib.Math.min.name]
def wsX7_leastFinish_r2 : List Cond := [Cond.static Lib.Math.min.name, Cond.code Lib.Math.min.name Lib.Math.min.code 2 (some .int), Cond.methodLink RX4 11 yX4_takes, Cond.static yX4_takes, Cond.code yX4_takes cX4_takes 1 (some .int), Cond.methodLink RX7 58 yX4_secondsTrying, Cond.static yX4_secondsTrying, Cond.code yX4_secondsTrying cX4_secondsTrying 3 (some .int)]
def wsX7_leastFinish : List Cond := .code yX7_leastFinish cX7_leastFinish 3 (some .int) :: ((wsX7_leastFinish_r1 ++ wsX7_leastFinish_r2) ++ wsX70)
def wsX7_bestTries_r1 : List Cond := [Cond.fieldLink RX7 15 "WetSuitPedalsShoes$Planner" "legsAtStart" "I", Cond.fieldLink RX7 9 "WetSuitPedalsShoes$Planner" "many" "I", Cond.fieldLink RX7 18 "WetSuitPedalsShoes$Planner" "kind" "[I", Cond.fieldLink RX7 22 "WetSuitPedalsShoes$Planner" "length" "[I", Cond.methodLink RX7 69 yX7_leastFinish, Cond.instanceMethod yX7_leastFinish, Cond.selects RX7 yX7_leastFinish yX7_leastFinish, Cond.initialized RX7, Cond.code yX7_leastFinish cX7_leastFinish 3 (some .int), Cond.fieldLink RX7 30 "WetSuitPedalsShoes$Planner" "toCome" "[[I", Cond.methodLink RX7 65 yX7_easiestBest, Cond.instanceMethod yX7_easiestBest, Cond.selects RX7 yX7_easiestBest yX7_easiestBest, Cond.code yX7_easiestBest cX7_easiestBest 5 (some .int), Cond.methodLink RX7 62 yX7_secondsFrom, Cond.instanceMethod yX7_secondsFrom, Cond.selects RX7 yX7_secondsFrom yX7_secondsFrom, Cond.code yX7_secondsFrom cX7_secondsFrom 5 (some .int), Cond.fieldLink RX7 25 "WetSuitPedalsShoes$Planner" "untried" "[I", Cond.methodLink RX7 52 yX4_legsBehind, Cond.static yX4_legsBehind, Cond.initialized RX4, Cond.code yX4_legsBehind cX4_legsBehind 5 (some .int), Cond.methodLink RX4 15 Lib.Math.max.name]
def wsX7_bestTries_r2 : List Cond := [Cond.static Lib.Math.max.name, Cond.initialized "java/lang/Math", Cond.code Lib.Math.max.name Lib.Math.max.code 2 (some .int), Cond.methodLink RX4 21 Lib.Math.min.name, Cond.static Lib.Math.min.name, Cond.code Lib.Math.min.name Lib.Math.min.code 2 (some .int), Cond.methodLink RX4 11 yX4_takes, Cond.static yX4_takes, Cond.code yX4_takes cX4_takes 1 (some .int), Cond.methodLink RX7 58 yX4_secondsTrying, Cond.static yX4_secondsTrying, Cond.code yX4_secondsTrying cX4_secondsTrying 3 (some .int)]
def wsX7_bestTries : List Cond := .code yX7_bestTries cX7_bestTries 4 (some .int) :: ((wsX7_bestTries_r1 ++ wsX7_bestTries_r2) ++ wsX70)
def wsX7_emptyNext : List Cond := .code yX7_emptyNext cX7_emptyNext 2 none :: ([.fieldLink RX7 36 "WetSuitPedalsShoes$Planner" "next" "[I", .constant RX7 83 (1000000)] ++ wsX70)
def wsX7_takeNext : List Cond := .code yX7_takeNext cX7_takeNext 2 none :: ([.fieldLink RX7 33 "WetSuitPedalsShoes$Planner" "reached" "[I", .fieldLink RX7 36 "WetSuitPedalsShoes$Planner" "next" "[I", .methodLink RX7 73 yX7_emptyNext, .instanceMethod yX7_emptyNext, .selects RX7 yX7_emptyNext yX7_emptyNext, .initialized RX7, .code yX7_emptyNext cX7_emptyNext 2 none, .constant RX7 83 (1000000)] ++ wsX70)
def wsX7_goOnFromLegs : List Cond := .code yX7_goOnFromLegs cX7_goOnFromLegs 9 none :: ([.fieldLink RX7 18 "WetSuitPedalsShoes$Planner" "kind" "[I", .fieldLink RX7 22 "WetSuitPedalsShoes$Planner" "length" "[I", .fieldLink RX7 25 "WetSuitPedalsShoes$Planner" "untried" "[I", .fieldLink RX7 36 "WetSuitPedalsShoes$Planner" "next" "[I", .methodLink RX7 88 Lib.Math.min.name, .static Lib.Math.min.name, .initialized "java/lang/Math", .code Lib.Math.min.name Lib.Math.min.code 2 (some .int), .methodLink RX7 52 yX4_legsBehind, .static yX4_legsBehind, .initialized RX4, .code yX4_legsBehind cX4_legsBehind 5 (some .int), .methodLink RX4 15 Lib.Math.max.name, .static Lib.Math.max.name, .code Lib.Math.max.name Lib.Math.max.code 2 (some .int), .methodLink RX4 21 Lib.Math.min.name, .methodLink RX4 11 yX4_takes, .static yX4_takes, .code yX4_takes cX4_takes 1 (some .int), .methodLink RX7 58 yX4_secondsTrying, .static yX4_secondsTrying, .code yX4_secondsTrying cX4_secondsTrying 3 (some .int)] ++ wsX70)
def wsX7_goOnFrom_r1 : List Cond := [Cond.fieldLink RX7 33 "WetSuitPedalsShoes$Planner" "reached" "[I", Cond.methodLink RX7 84 yX7_goOnFromLegs, Cond.instanceMethod yX7_goOnFromLegs, Cond.selects RX7 yX7_goOnFromLegs yX7_goOnFromLegs, Cond.initialized RX7, Cond.code yX7_goOnFromLegs cX7_goOnFromLegs 9 none, Cond.fieldLink RX7 18 "WetSuitPedalsShoes$Planner" "kind" "[I", Cond.fieldLink RX7 22 "WetSuitPedalsShoes$Planner" "length" "[I", Cond.fieldLink RX7 25 "WetSuitPedalsShoes$Planner" "untried" "[I", Cond.fieldLink RX7 36 "WetSuitPedalsShoes$Planner" "next" "[I", Cond.methodLink RX7 88 Lib.Math.min.name, Cond.static Lib.Math.min.name, Cond.initialized "java/lang/Math", Cond.code Lib.Math.min.name Lib.Math.min.code 2 (some .int), Cond.methodLink RX7 52 yX4_legsBehind, Cond.static yX4_legsBehind, Cond.initialized RX4, Cond.code yX4_legsBehind cX4_legsBehind 5 (some .int), Cond.methodLink RX4 15 Lib.Math.max.name, Cond.static Lib.Math.max.name, Cond.code Lib.Math.max.name Lib.Math.max.code 2 (some .int), Cond.methodLink RX4 21 Lib.Math.min.name, Cond.methodLink RX4 11 yX4_takes, Cond.static yX4_takes]
def wsX7_goOnFrom_r2 : List Cond := [Cond.code yX4_takes cX4_takes 1 (some .int), Cond.methodLink RX7 58 yX4_secondsTrying, Cond.static yX4_secondsTrying, Cond.code yX4_secondsTrying cX4_secondsTrying 3 (some .int)]
def wsX7_goOnFrom : List Cond := .code yX7_goOnFrom cX7_goOnFrom 6 none :: ((wsX7_goOnFrom_r1 ++ wsX7_goOnFrom_r2) ++ wsX70)
def wsX7_fewestTries_r1 : List Cond := [Cond.fieldLink RX7 36 "WetSuitPedalsShoes$Planner" "next" "[I", Cond.fieldLink RX7 15 "WetSuitPedalsShoes$Planner" "legsAtStart" "I", Cond.fieldLink RX7 9 "WetSuitPedalsShoes$Planner" "many" "I", Cond.methodLink RX7 73 yX7_emptyNext, Cond.instanceMethod yX7_emptyNext, Cond.selects RX7 yX7_emptyNext yX7_emptyNext, Cond.initialized RX7, Cond.code yX7_emptyNext cX7_emptyNext 2 none, Cond.constant RX7 83 (1000000), Cond.methodLink RX7 76 yX7_takeNext, Cond.instanceMethod yX7_takeNext, Cond.selects RX7 yX7_takeNext yX7_takeNext, Cond.code yX7_takeNext cX7_takeNext 2 none, Cond.fieldLink RX7 33 "WetSuitPedalsShoes$Planner" "reached" "[I", Cond.methodLink RX7 79 yX7_goOnFrom, Cond.instanceMethod yX7_goOnFrom, Cond.selects RX7 yX7_goOnFrom yX7_goOnFrom, Cond.code yX7_goOnFrom cX7_goOnFrom 6 none, Cond.methodLink RX7 84 yX7_goOnFromLegs, Cond.instanceMethod yX7_goOnFromLegs, Cond.selects RX7 yX7_goOnFromLegs yX7_goOnFromLegs, Cond.code yX7_goOnFromLegs cX7_goOnFromLegs 9 none, Cond.fieldLink RX7 18 "WetSuitPedalsShoes$Planner" "kind" "[I", Cond.fieldLink RX7 22 "WetSuitPedalsShoes$Planner" "length" "[I"]
def wsX7_fewestTries_r2 : List Cond := [Cond.fieldLink RX7 25 "WetSuitPedalsShoes$Planner" "untried" "[I", Cond.methodLink RX7 88 Lib.Math.min.name, Cond.static Lib.Math.min.name, Cond.initialized "java/lang/Math", Cond.code Lib.Math.min.name Lib.Math.min.code 2 (some .int), Cond.methodLink RX7 52 yX4_legsBehind, Cond.static yX4_legsBehind, Cond.initialized RX4, Cond.code yX4_legsBehind cX4_legsBehind 5 (some .int), Cond.methodLink RX4 15 Lib.Math.max.name, Cond.static Lib.Math.max.name, Cond.code Lib.Math.max.name Lib.Math.max.code 2 (some .int), Cond.methodLink RX4 21 Lib.Math.min.name, Cond.methodLink RX4 11 yX4_takes, Cond.static yX4_takes, Cond.code yX4_takes cX4_takes 1 (some .int), Cond.methodLink RX7 58 yX4_secondsTrying, Cond.static yX4_secondsTrying, Cond.code yX4_secondsTrying cX4_secondsTrying 3 (some .int)]
def wsX7_fewestTries : List Cond := .code yX7_fewestTries cX7_fewestTries 4 (some .int) :: ((wsX7_fewestTries_r1 ++ wsX7_fewestTries_r2) ++ wsX70)
def wsX8_init : List Cond := .code yX8_init cX8_init 1 none :: ([.methodLink RX8 3 objectInit, .instanceMethod objectInit, .code objectInit ⟨#[0xb1]⟩ 1 none, .fieldLink RX8 9 "WetSuitPedalsShoes$Row" "many" "I", .arrayClass .int, .fieldLink RX8 15 "WetSuitPedalsShoes$Row" "numbers" "[I"] ++ wsX80)
def wsX8_isFull : List Cond := .code yX8_isFull cX8_isFull 1 (some .boolean) :: ([.fieldLink RX8 9 "WetSuitPedalsShoes$Row" "many" "I"] ++ wsX80)
def wsX8_put : List Cond := .code yX8_put cX8_put 2 (some .int) :: ([.fieldLink RX8 9 "WetSuitPedalsShoes$Row" "many" "I", .fieldLink RX8 15 "WetSuitPedalsShoes$Row" "numbers" "[I"] ++ wsX80)
def wsX8_forget : List Cond := .code yX8_forget cX8_forget 2 (some .int) :: ([.fieldLink RX8 9 "WetSuitPedalsShoes$Row" "many" "I"] ++ wsX80)
def wsX8_firstUnlike : List Cond := .code yX8_firstUnlike cX8_firstUnlike 4 (some .int) :: ([.fieldLink RX8 9 "WetSuitPedalsShoes$Row" "many" "I", .fieldLink RX8 15 "WetSuitPedalsShoes$Row" "numbers" "[I"] ++ wsX80)
def wsX9_init : List Cond := .code yX9_init cX9_init 1 none :: ([.methodLink RX9 3 objectInit, .instanceMethod objectInit, .code objectInit ⟨#[0xb1]⟩ 1 none, .fieldLink RX9 9 "WetSuitPedalsShoes$Text" "many" "I", .arrayClass .int, .fieldLink RX9 15 "WetSuitPedalsShoes$Text" "letters" "[I"] ++ wsX90)
def wsX9_isFull : List Cond := .code yX9_isFull cX9_isFull 1 (some .boolean) :: ([.fieldLink RX9 9 "WetSuitPedalsShoes$Text" "many" "I"] ++ wsX90)
def wsX9_put : List Cond := .code yX9_put cX9_put 2 (some .int) :: ([.fieldLink RX9 9 "WetSuitPedalsShoes$Text" "many" "I", .fieldLink RX9 15 "WetSuitPedalsShoes$Text" "letters" "[I"] ++ wsX90)
def wsX9_forget : List Cond := .code yX9_forget cX9_forget 1 none :: ([.fieldLink RX9 9 "WetSuitPedalsShoes$Text" "many" "I"] ++ wsX90)
def wsX9_leastInside : List Cond := .code yX9_leastInside cX9_leastInside 1 (some .int) :: ([])
def wsX9_mostInside : List Cond := .code yX9_mostInside cX9_mostInside 1 (some .int) :: ([.methodLink RX9 27 yX9_leastInside, .static yX9_leastInside, .initialized RX9, .code yX9_leastInside cX9_leastInside 1 (some .int)])
def wsX9_fits : List Cond := .code yX9_fits cX9_fits 3 (some .boolean) :: ([.methodLink RX9 27 yX9_leastInside, .static yX9_leastInside, .initialized RX9, .code yX9_leastInside cX9_leastInside 1 (some .int), .methodLink RX9 35 yX9_mostInside, .static yX9_mostInside, .code yX9_mostInside cX9_mostInside 1 (some .int), .methodLink RX9 38 yX4_ofLetter, .static yX4_ofLetter, .initialized RX4, .code yX4_ofLetter cX4_ofLetter 1 (some .int)])
def wsX9_placeOfBadLetter : List Cond := .code yX9_placeOfBadLetter cX9_placeOfBadLetter 5 (some .int) :: ([.fieldLink RX9 9 "WetSuitPedalsShoes$Text" "many" "I", .fieldLink RX9 15 "WetSuitPedalsShoes$Text" "letters" "[I", .methodLink RX9 27 yX9_leastInside, .static yX9_leastInside, .initialized RX9, .code yX9_leastInside cX9_leastInside 1 (some .int), .methodLink RX9 31 yX9_fits, .static yX9_fits, .code yX9_fits cX9_fits 3 (some .boolean), .methodLink RX9 35 yX9_mostInside, .static yX9_mostInside, .code yX9_mostInside cX9_mostInside 1 (some .int), .methodLink RX9 38 yX4_ofLetter, .static yX4_ofLetter, .initialized RX4, .code yX4_ofLetter cX4_ofLetter 1 (some .int)] ++ wsX90)
def wsX9_endOf : List Cond := .code yX9_endOf cX9_endOf 3 (some .int) :: ([.fieldLink RX9 9 "WetSuitPedalsShoes$Text" "many" "I", .fieldLink RX9 15 "WetSuitPedalsShoes$Text" "letters" "[I"] ++ wsX90)
def wsX9_digit : List Cond := .code yX9_digit cX9_digit 2 (some .int) :: ([.fieldLink RX9 9 "WetSuitPedalsShoes$Text" "many" "I", .fieldLink RX9 15 "WetSuitPedalsShoes$Text" "letters" "[I"] ++ wsX90)
def wsX9_letterAt : List Cond := .code yX9_letterAt cX9_letterAt 2 (some .int) :: ([.fieldLink RX9 9 "WetSuitPedalsShoes$Text" "many" "I", .fieldLink RX9 15 "WetSuitPedalsShoes$Text" "letters" "[I"] ++ wsX90)
def wsX9_areTries : List Cond := .code yX9_areTries cX9_areTries 4 (some .boolean) :: ([.methodLink RX9 63 yX9_digit, .instanceMethod yX9_digit, .selects RX9 yX9_digit yX9_digit, .initialized RX9, .code yX9_digit cX9_digit 2 (some .int), .fieldLink RX9 9 "WetSuitPedalsShoes$Text" "many" "I", .fieldLink RX9 15 "WetSuitPedalsShoes$Text" "letters" "[I"] ++ wsX90)
def wsX9_isAsItMustBe : List Cond := .code yX9_isAsItMustBe cX9_isAsItMustBe 7 (some .boolean) :: ([.methodLink RX9 63 yX9_digit, .instanceMethod yX9_digit, .selects RX9 yX9_digit yX9_digit, .initialized RX9, .code yX9_digit cX9_digit 2 (some .int), .fieldLink RX9 9 "WetSuitPedalsShoes$Text" "many" "I", .fieldLink RX9 15 "WetSuitPedalsShoes$Text" "letters" "[I", .methodLink RX9 60 yX9_letterAt, .instanceMethod yX9_letterAt, .selects RX9 yX9_letterAt yX9_letterAt, .code yX9_letterAt cX9_letterAt 2 (some .int), .methodLink RX9 66 yX9_areTries, .instanceMethod yX9_areTries, .selects RX9 yX9_areTries yX9_areTries, .code yX9_areTries cX9_areTries 4 (some .boolean)] ++ wsX90)
def wsX9_placeOfBadStatement_r1 : List Cond := [Cond.fieldLink RX9 43 "WetSuitPedalsShoes$Field" "course" "LWetSuitPedalsShoes$Course;", Cond.fieldLink RX9 49 "WetSuitPedalsShoes$Course" "many" "I", Cond.fieldLink RX9 52 "WetSuitPedalsShoes$Field" "many" "I", Cond.fieldLink RX9 9 "WetSuitPedalsShoes$Text" "many" "I", Cond.methodLink RX9 53 yX9_endOf, Cond.instanceMethod yX9_endOf, Cond.selects RX9 yX9_endOf yX9_endOf, Cond.initialized RX9, Cond.code yX9_endOf cX9_endOf 3 (some .int), Cond.fieldLink RX9 15 "WetSuitPedalsShoes$Text" "letters" "[I", Cond.methodLink RX9 56 yX9_isAsItMustBe, Cond.instanceMethod yX9_isAsItMustBe, Cond.selects RX9 yX9_isAsItMustBe yX9_isAsItMustBe, Cond.code yX9_isAsItMustBe cX9_isAsItMustBe 7 (some .boolean), Cond.methodLink RX9 63 yX9_digit, Cond.instanceMethod yX9_digit, Cond.selects RX9 yX9_digit yX9_digit, Cond.code yX9_digit cX9_digit 2 (some .int), Cond.methodLink RX9 60 yX9_letterAt, Cond.instanceMethod yX9_letterAt, Cond.selects RX9 yX9_letterAt yX9_letterAt, Cond.code yX9_letterAt cX9_letterAt 2 (some .int), Cond.methodLink RX9 66 yX9_areTries, Cond.instanceMethod yX9_areTries]
def wsX9_placeOfBadStatement_r2 : List Cond := [Cond.selects RX9 yX9_areTries yX9_areTries, Cond.code yX9_areTries cX9_areTries 4 (some .boolean)]
def wsX9_placeOfBadStatement : List Cond := .code yX9_placeOfBadStatement cX9_placeOfBadStatement 7 (some .int) :: ((wsX9_placeOfBadStatement_r1 ++ wsX9_placeOfBadStatement_r2) ++ wsX30 ++ wsX10 ++ wsX90)
def wsX9_faultIn_r1 : List Cond := [Cond.methodLink RX9 19 yX9_placeOfBadLetter, Cond.instanceMethod yX9_placeOfBadLetter, Cond.selects RX9 yX9_placeOfBadLetter yX9_placeOfBadLetter, Cond.initialized RX9, Cond.code yX9_placeOfBadLetter cX9_placeOfBadLetter 5 (some .int), Cond.fieldLink RX9 9 "WetSuitPedalsShoes$Text" "many" "I", Cond.fieldLink RX9 15 "WetSuitPedalsShoes$Text" "letters" "[I", Cond.methodLink RX9 27 yX9_leastInside, Cond.static yX9_leastInside, Cond.code yX9_leastInside cX9_leastInside 1 (some .int), Cond.methodLink RX9 31 yX9_fits, Cond.static yX9_fits, Cond.code yX9_fits cX9_fits 3 (some .boolean), Cond.methodLink RX9 35 yX9_mostInside, Cond.static yX9_mostInside, Cond.code yX9_mostInside cX9_mostInside 1 (some .int), Cond.methodLink RX9 38 yX4_ofLetter, Cond.static yX4_ofLetter, Cond.initialized RX4, Cond.code yX4_ofLetter cX4_ofLetter 1 (some .int), Cond.methodLink RX9 23 yX9_placeOfBadStatement, Cond.instanceMethod yX9_placeOfBadStatement, Cond.selects RX9 yX9_placeOfBadStatement yX9_placeOfBadStatement, Cond.code yX9_placeOfBadStatement cX9_placeOfBadStatement 7 (some .int)]
def wsX9_faultIn_r2 : List Cond := [Cond.fieldLink RX9 43 "WetSuitPedalsShoes$Field" "course" "LWetSuitPedalsShoes$Course;", Cond.fieldLink RX9 49 "WetSuitPedalsShoes$Course" "many" "I", Cond.fieldLink RX9 52 "WetSuitPedalsShoes$Field" "many" "I", Cond.methodLink RX9 53 yX9_endOf, Cond.instanceMethod yX9_endOf, Cond.selects RX9 yX9_endOf yX9_endOf, Cond.code yX9_endOf cX9_endOf 3 (some .int), Cond.methodLink RX9 56 yX9_isAsItMustBe, Cond.instanceMethod yX9_isAsItMustBe, Cond.selects RX9 yX9_isAsItMustBe yX9_isAsItMustBe, Cond.code yX9_isAsItMustBe cX9_isAsItMustBe 7 (some .boolean), Cond.methodLink RX9 63 yX9_digit, Cond.instanceMethod yX9_digit, Cond.selects RX9 yX9_digit yX9_digit, Cond.code yX9_digit cX9_digit 2 (some .int), Cond.methodLink RX9 60 yX9_letterAt, Cond.instanceMethod yX9_letterAt, Cond.selects RX9 yX9_letterAt yX9_letterAt, Cond.code yX9_letterAt cX9_letterAt 2 (some .int), Cond.methodLink RX9 66 yX9_areTries, Cond.instanceMethod yX9_areTries, Cond.selects RX9 yX9_areTries yX9_areTries, Cond.code yX9_areTries cX9_areTries 4 (some .boolean)]
def wsX9_faultIn : List Cond := .code yX9_faultIn cX9_faultIn 3 (some .int) :: ((wsX9_faultIn_r1 ++ wsX9_faultIn_r2) ++ wsX90 ++ wsX30 ++ wsX10)
def wsX9_tellOne_r1 : List Cond := [Cond.fieldLink RX9 43 "WetSuitPedalsShoes$Field" "course" "LWetSuitPedalsShoes$Course;", Cond.methodLink RX9 63 yX9_digit, Cond.instanceMethod yX9_digit, Cond.selects RX9 yX9_digit yX9_digit, Cond.initialized RX9, Cond.code yX9_digit cX9_digit 2 (some .int), Cond.fieldLink RX9 9 "WetSuitPedalsShoes$Text" "many" "I", Cond.fieldLink RX9 15 "WetSuitPedalsShoes$Text" "letters" "[I", Cond.methodLink RX9 60 yX9_letterAt, Cond.instanceMethod yX9_letterAt, Cond.selects RX9 yX9_letterAt yX9_letterAt, Cond.code yX9_letterAt cX9_letterAt 2 (some .int), Cond.methodLink RX9 38 yX4_ofLetter, Cond.static yX4_ofLetter, Cond.initialized RX4, Cond.code yX4_ofLetter cX4_ofLetter 1 (some .int), Cond.methodLink RX9 74 yX1_add, Cond.instanceMethod yX1_add, Cond.selects RX1 yX1_add yX1_add, Cond.initialized RX1, Cond.code yX1_add cX1_add 4 none, Cond.fieldLink RX1 9 "WetSuitPedalsShoes$Course" "many" "I", Cond.fieldLink RX1 15 "WetSuitPedalsShoes$Course" "kind" "[I", Cond.fieldLink RX1 19 "WetSuitPedalsShoes$Course" "figure" "[I"]
def wsX9_tellOne_r2 : List Cond := [Cond.fieldLink RX1 22 "WetSuitPedalsShoes$Course" "length" "[I", Cond.methodLink RX9 78 yX3_add, Cond.instanceMethod yX3_add, Cond.selects RX3 yX3_add yX3_add, Cond.initialized RX3, Cond.code yX3_add cX3_add 5 none, Cond.fieldLink RX3 24 "WetSuitPedalsShoes$Field" "many" "I", Cond.fieldLink RX3 20 "WetSuitPedalsShoes$Field" "athletes" "[LWetSuitPedalsShoes$Athlete;", Cond.methodLink RX3 29 yX0_start, Cond.instanceMethod yX0_start, Cond.selects RX0 yX0_start yX0_start, Cond.initialized RX0, Cond.code yX0_start cX0_start 6 none, Cond.fieldLink RX0 9 "WetSuitPedalsShoes$Athlete" "able" "[I", Cond.fieldLink RX0 15 "WetSuitPedalsShoes$Athlete" "tries" "[I", Cond.methodLink RX9 81 yX3_planTries, Cond.instanceMethod yX3_planTries, Cond.selects RX3 yX3_planTries yX3_planTries, Cond.code yX3_planTries cX3_planTries 4 none, Cond.fieldLink RX3 37 "WetSuitPedalsShoes$Athlete" "tries" "[I", Cond.methodLink RX3 33 yX3_has, Cond.instanceMethod yX3_has, Cond.selects RX3 yX3_has yX3_has, Cond.code yX3_has cX3_has 2 (some .boolean)]
def wsX9_tellOne_r3 : List Cond := [Cond.methodLink RX9 84 yX1_exchange, Cond.instanceMethod yX1_exchange, Cond.selects RX1 yX1_exchange yX1_exchange, Cond.code yX1_exchange cX1_exchange 3 none, Cond.methodLink RX1 31 yX1_has, Cond.instanceMethod yX1_has, Cond.selects RX1 yX1_has yX1_has, Cond.code yX1_has cX1_has 2 (some .boolean), Cond.methodLink RX1 35 yX1_exchange_, Cond.static yX1_exchange_, Cond.code yX1_exchange_ cX1_exchange_ 4 none]
def wsX9_tellOne : List Cond := .code yX9_tellOne cX9_tellOne 8 none :: ((wsX9_tellOne_r1 ++ (wsX9_tellOne_r2 ++ wsX9_tellOne_r3)) ++ wsX30 ++ wsX90 ++ wsX10 ++ wsX00)
def wsX9_tellTo_r1 : List Cond := [Cond.fieldLink RX9 9 "WetSuitPedalsShoes$Text" "many" "I", Cond.methodLink RX9 53 yX9_endOf, Cond.instanceMethod yX9_endOf, Cond.selects RX9 yX9_endOf yX9_endOf, Cond.initialized RX9, Cond.code yX9_endOf cX9_endOf 3 (some .int), Cond.fieldLink RX9 15 "WetSuitPedalsShoes$Text" "letters" "[I", Cond.methodLink RX9 70 yX9_tellOne, Cond.instanceMethod yX9_tellOne, Cond.selects RX9 yX9_tellOne yX9_tellOne, Cond.code yX9_tellOne cX9_tellOne 8 none, Cond.fieldLink RX9 43 "WetSuitPedalsShoes$Field" "course" "LWetSuitPedalsShoes$Course;", Cond.methodLink RX9 63 yX9_digit, Cond.instanceMethod yX9_digit, Cond.selects RX9 yX9_digit yX9_digit, Cond.code yX9_digit cX9_digit 2 (some .int), Cond.methodLink RX9 60 yX9_letterAt, Cond.instanceMethod yX9_letterAt, Cond.selects RX9 yX9_letterAt yX9_letterAt, Cond.code yX9_letterAt cX9_letterAt 2 (some .int), Cond.methodLink RX9 38 yX4_ofLetter, Cond.static yX4_ofLetter, Cond.initialized RX4, Cond.code yX4_ofLetter cX4_ofLetter 1 (some .int)]
def wsX9_tellTo_r2 : List Cond := [Cond.methodLink RX9 74 yX1_add, Cond.instanceMethod yX1_add, Cond.selects RX1 yX1_add yX1_add, Cond.initialized RX1, Cond.code yX1_add cX1_add 4 none, Cond.fieldLink RX1 9 "WetSuitPedalsShoes$Course" "many" "I", Cond.fieldLink RX1 15 "WetSuitPedalsShoes$Course" "kind" "[I", Cond.fieldLink RX1 19 "WetSuitPedalsShoes$Course" "figure" "[I", Cond.fieldLink RX1 22 "WetSuitPedalsShoes$Course" "length" "[I", Cond.methodLink RX9 78 yX3_add, Cond.instanceMethod yX3_add, Cond.selects RX3 yX3_add yX3_add, Cond.initialized RX3, Cond.code yX3_add cX3_add 5 none, Cond.fieldLink RX3 24 "WetSuitPedalsShoes$Field" "many" "I", Cond.fieldLink RX3 20 "WetSuitPedalsShoes$Field" "athletes" "[LWetSuitPedalsShoes$Athlete;", Cond.methodLink RX3 29 yX0_start, Cond.instanceMethod yX0_start, Cond.selects RX0 yX0_start yX0_start, Cond.initialized RX0, Cond.code yX0_start cX0_start 6 none, Cond.fieldLink RX0 9 "WetSuitPedalsShoes$Athlete" "able" "[I", Cond.fieldLink RX0 15 "WetSuitPedalsShoes$Athlete" "tries" "[I", Cond.methodLink RX9 81 yX3_planTries]
def wsX9_tellTo_r3 : List Cond := [Cond.instanceMethod yX3_planTries, Cond.selects RX3 yX3_planTries yX3_planTries, Cond.code yX3_planTries cX3_planTries 4 none, Cond.fieldLink RX3 37 "WetSuitPedalsShoes$Athlete" "tries" "[I", Cond.methodLink RX3 33 yX3_has, Cond.instanceMethod yX3_has, Cond.selects RX3 yX3_has yX3_has, Cond.code yX3_has cX3_has 2 (some .boolean), Cond.methodLink RX9 84 yX1_exchange, Cond.instanceMethod yX1_exchange, Cond.selects RX1 yX1_exchange yX1_exchange, Cond.code yX1_exchange cX1_exchange 3 none, Cond.methodLink RX1 31 yX1_has, Cond.instanceMethod yX1_has, Cond.selects RX1 yX1_has yX1_has, Cond.code yX1_has cX1_has 2 (some .boolean), Cond.methodLink RX1 35 yX1_exchange_, Cond.static yX1_exchange_, Cond.code yX1_exchange_ cX1_exchange_ 4 none]
def wsX9_tellTo : List Cond := .code yX9_tellTo cX9_tellTo 6 (some .int) :: ((wsX9_tellTo_r1 ++ (wsX9_tellTo_r2 ++ wsX9_tellTo_r3)) ++ wsX90 ++ wsX30 ++ wsX10 ++ wsX00)
def wsX10_init_r1 : List Cond := [Cond.methodLink RX10 3 objectInit, Cond.instanceMethod objectInit, Cond.code objectInit ⟨#[0xb1]⟩ 1 none, Cond.classLink RX10 9 RX1, Cond.instantiable RX1 4, Cond.initialized RX1, Cond.fieldLink RX10 12 "WetSuitPedalsShoes$Trial" "course" "LWetSuitPedalsShoes$Course;", Cond.classLink RX10 18 RX0, Cond.instantiable RX0 2, Cond.initialized RX0, Cond.fieldLink RX10 21 "WetSuitPedalsShoes$Trial" "who" "LWetSuitPedalsShoes$Athlete;", Cond.fieldLink RX10 25 "WetSuitPedalsShoes$Trial" "drinkBehind" "I", Cond.arrayClass .int, Cond.fieldLink RX10 29 "WetSuitPedalsShoes$Trial" "seconds" "[I", Cond.fieldLink RX10 33 "WetSuitPedalsShoes$Trial" "legs" "[I", Cond.fieldLink RX10 36 "WetSuitPedalsShoes$Trial" "all" "[I", Cond.instanceMethod yX1_init, Cond.code yX1_init cX1_init 1 none, Cond.methodLink RX1 3 objectInit, Cond.fieldLink RX1 9 "WetSuitPedalsShoes$Course" "many" "I", Cond.fieldLink RX1 15 "WetSuitPedalsShoes$Course" "kind" "[I", Cond.fieldLink RX1 19 "WetSuitPedalsShoes$Course" "figure" "[I", Cond.fieldLink RX1 22 "WetSuitPedalsShoes$Course" "length" "[I", Cond.instanceMethod yX0_init]
def wsX10_init_r2 : List Cond := [Cond.code yX0_init cX0_init 1 none, Cond.methodLink RX0 3 objectInit, Cond.fieldLink RX0 9 "WetSuitPedalsShoes$Athlete" "able" "[I", Cond.fieldLink RX0 15 "WetSuitPedalsShoes$Athlete" "tries" "[I"]
def wsX10_init : List Cond := .code yX10_init cX10_init 1 none :: ((wsX10_init_r1 ++ wsX10_init_r2) ++ wsX10 ++ wsX100 ++ wsX00)
def wsX10_load : List Cond := .code yX10_load cX10_load 3 none :: ([.fieldLink RX10 12 "WetSuitPedalsShoes$Trial" "course" "LWetSuitPedalsShoes$Course;", .fieldLink RX10 21 "WetSuitPedalsShoes$Trial" "who" "LWetSuitPedalsShoes$Athlete;", .fieldLink RX10 25 "WetSuitPedalsShoes$Trial" "drinkBehind" "I", .methodLink RX10 39 yX1_become, .instanceMethod yX1_become, .selects RX1 yX1_become yX1_become, .initialized RX1, .code yX1_become cX1_become 2 none, .fieldLink RX1 9 "WetSuitPedalsShoes$Course" "many" "I", .fieldLink RX1 15 "WetSuitPedalsShoes$Course" "kind" "[I", .methodLink RX1 25 arraycopyName, .native arraycopyName, .static arraycopyName, .initialized "java/lang/System", .fieldLink RX1 19 "WetSuitPedalsShoes$Course" "figure" "[I", .fieldLink RX1 22 "WetSuitPedalsShoes$Course" "length" "[I", .methodLink RX10 43 yX0_become, .instanceMethod yX0_become, .selects RX0 yX0_become yX0_become, .initialized RX0, .code yX0_become cX0_become 2 none, .fieldLink RX0 9 "WetSuitPedalsShoes$Athlete" "able" "[I", .methodLink RX0 18 arraycopyName, .fieldLink RX0 15 "WetSuitPedalsShoes$Athlete" "tries" "[I"] ++ wsX100 ++ wsX10 ++ wsX00)
def wsX10_run_r1 : List Cond := [Cond.fieldLink RX10 21 "WetSuitPedalsShoes$Trial" "who" "LWetSuitPedalsShoes$Athlete;", Cond.fieldLink RX10 46 "WetSuitPedalsShoes$Athlete" "able" "[I", Cond.fieldLink RX10 12 "WetSuitPedalsShoes$Trial" "course" "LWetSuitPedalsShoes$Course;", Cond.fieldLink RX10 49 "WetSuitPedalsShoes$Course" "many" "I", Cond.fieldLink RX10 52 "WetSuitPedalsShoes$Athlete" "tries" "[I", Cond.fieldLink RX10 29 "WetSuitPedalsShoes$Trial" "seconds" "[I", Cond.fieldLink RX10 65 "WetSuitPedalsShoes$Course" "kind" "[I", Cond.fieldLink RX10 68 "WetSuitPedalsShoes$Course" "length" "[I", Cond.fieldLink RX10 25 "WetSuitPedalsShoes$Trial" "drinkBehind" "I", Cond.methodLink RX10 75 Lib.Math.min.name, Cond.static Lib.Math.min.name, Cond.initialized "java/lang/Math", Cond.code Lib.Math.min.name Lib.Math.min.code 2 (some .int), Cond.fieldLink RX10 33 "WetSuitPedalsShoes$Trial" "legs" "[I", Cond.fieldLink RX10 36 "WetSuitPedalsShoes$Trial" "all" "[I", Cond.methodLink RX10 55 yX1_untried, Cond.instanceMethod yX1_untried, Cond.selects RX1 yX1_untried yX1_untried, Cond.initialized RX1, Cond.code yX1_untried cX1_untried 6 (some .int), Cond.fieldLink RX1 22 "WetSuitPedalsShoes$Course" "length" "[I", Cond.fieldLink RX1 19 "WetSuitPedalsShoes$Course" "figure" "[I", Cond.fieldLink RX1 15 "WetSuitPedalsShoes$Course" "kind" "[I", Cond.fieldLink RX1 39 "WetSuitPedalsShoes$Athlete" "able" "[I"]
def wsX10_run_r2 : List Cond := [Cond.methodLink RX1 44 yX1_isBehindRide, Cond.instanceMethod yX1_isBehindRide, Cond.selects RX1 yX1_isBehindRide yX1_isBehindRide, Cond.code yX1_isBehindRide cX1_isBehindRide 2 (some .boolean), Cond.methodLink RX1 47 yX4_isRide, Cond.static yX4_isRide, Cond.initialized RX4, Cond.code yX4_isRide cX4_isRide 1 (some .boolean), Cond.methodLink RX10 59 yX4_secondsTrying, Cond.static yX4_secondsTrying, Cond.code yX4_secondsTrying cX4_secondsTrying 3 (some .int), Cond.methodLink RX10 71 yX4_legsBehind, Cond.static yX4_legsBehind, Cond.code yX4_legsBehind cX4_legsBehind 5 (some .int), Cond.methodLink RX4 15 Lib.Math.max.name, Cond.static Lib.Math.max.name, Cond.code Lib.Math.max.name Lib.Math.max.code 2 (some .int), Cond.methodLink RX4 21 Lib.Math.min.name, Cond.methodLink RX4 11 yX4_takes, Cond.static yX4_takes, Cond.code yX4_takes cX4_takes 1 (some .int)]
def wsX10_run : List Cond := .code yX10_run cX10_run 5 (some .int) :: ((wsX10_run_r1 ++ wsX10_run_r2) ++ wsX100 ++ wsX00 ++ wsX10)
def wsX10_rideAt : List Cond := .code yX10_rideAt cX10_rideAt 3 none :: ([.fieldLink RX10 12 "WetSuitPedalsShoes$Trial" "course" "LWetSuitPedalsShoes$Course;", .fieldLink RX10 49 "WetSuitPedalsShoes$Course" "many" "I", .fieldLink RX10 65 "WetSuitPedalsShoes$Course" "kind" "[I", .fieldLink RX10 21 "WetSuitPedalsShoes$Trial" "who" "LWetSuitPedalsShoes$Athlete;", .fieldLink RX10 52 "WetSuitPedalsShoes$Athlete" "tries" "[I", .methodLink RX10 81 yX4_isRide, .static yX4_isRide, .initialized RX4, .code yX4_isRide cX4_isRide 1 (some .boolean)] ++ wsX100 ++ wsX10 ++ wsX00)
def wsX10_leaveOut : List Cond := .code yX10_leaveOut cX10_leaveOut 3 none :: ([.fieldLink RX10 12 "WetSuitPedalsShoes$Trial" "course" "LWetSuitPedalsShoes$Course;", .fieldLink RX10 49 "WetSuitPedalsShoes$Course" "many" "I", .fieldLink RX10 21 "WetSuitPedalsShoes$Trial" "who" "LWetSuitPedalsShoes$Athlete;", .fieldLink RX10 52 "WetSuitPedalsShoes$Athlete" "tries" "[I", .methodLink RX10 85 yX1_has, .instanceMethod yX1_has, .selects RX1 yX1_has yX1_has, .initialized RX1, .code yX1_has cX1_has 2 (some .boolean), .fieldLink RX1 9 "WetSuitPedalsShoes$Course" "many" "I", .methodLink RX10 88 yX1_remove, .instanceMethod yX1_remove, .selects RX1 yX1_remove yX1_remove, .code yX1_remove cX1_remove 3 none, .fieldLink RX1 15 "WetSuitPedalsShoes$Course" "kind" "[I", .fieldLink RX1 19 "WetSuitPedalsShoes$Course" "figure" "[I", .fieldLink RX1 22 "WetSuitPedalsShoes$Course" "length" "[I", .methodLink RX1 31 yX1_has] ++ wsX100 ++ wsX10 ++ wsX00)
def wsX10_legsAtFinish : List Cond := .code yX10_legsAtFinish cX10_legsAtFinish 1 (some .int) :: ([.fieldLink RX10 12 "WetSuitPedalsShoes$Trial" "course" "LWetSuitPedalsShoes$Course;", .fieldLink RX10 49 "WetSuitPedalsShoes$Course" "many" "I", .fieldLink RX10 21 "WetSuitPedalsShoes$Trial" "who" "LWetSuitPedalsShoes$Athlete;", .fieldLink RX10 46 "WetSuitPedalsShoes$Athlete" "able" "[I", .fieldLink RX10 33 "WetSuitPedalsShoes$Trial" "legs" "[I"] ++ wsX100 ++ wsX10 ++ wsX00)
def wsX10_gone : List Cond := .code yX10_gone cX10_gone 2 (some .int) :: ([.fieldLink RX10 12 "WetSuitPedalsShoes$Trial" "course" "LWetSuitPedalsShoes$Course;", .fieldLink RX10 49 "WetSuitPedalsShoes$Course" "many" "I", .fieldLink RX10 33 "WetSuitPedalsShoes$Trial" "legs" "[I"] ++ wsX100 ++ wsX10)
def wsX10_sectionAt : List Cond := .code yX10_sectionAt cX10_sectionAt 3 (some .int) :: ([.fieldLink RX10 12 "WetSuitPedalsShoes$Trial" "course" "LWetSuitPedalsShoes$Course;", .fieldLink RX10 49 "WetSuitPedalsShoes$Course" "many" "I", .fieldLink RX10 36 "WetSuitPedalsShoes$Trial" "all" "[I"] ++ wsX100 ++ wsX10)
def wsX10_isPastIn : List Cond := .code yX10_isPastIn cX10_isPastIn 3 (some .boolean) :: ([.fieldLink RX10 36 "WetSuitPedalsShoes$Trial" "all" "[I"] ++ wsX100)
def wsX10_howOftenPast : List Cond := .code yX10_howOftenPast cX10_howOftenPast 4 (some .int) :: ([.fieldLink RX10 12 "WetSuitPedalsShoes$Trial" "course" "LWetSuitPedalsShoes$Course;", .fieldLink RX10 49 "WetSuitPedalsShoes$Course" "many" "I", .methodLink RX10 92 yX10_isPastIn, .instanceMethod yX10_isPastIn, .selects RX10 yX10_isPastIn yX10_isPastIn, .initialized RX10, .code yX10_isPastIn cX10_isPastIn 3 (some .boolean), .fieldLink RX10 36 "WetSuitPedalsShoes$Trial" "all" "[I"] ++ wsX100 ++ wsX10)
def wsX10_firstPast : List Cond := .code yX10_firstPast cX10_firstPast 3 (some .int) :: ([.fieldLink RX10 12 "WetSuitPedalsShoes$Trial" "course" "LWetSuitPedalsShoes$Course;", .fieldLink RX10 49 "WetSuitPedalsShoes$Course" "many" "I", .methodLink RX10 92 yX10_isPastIn, .instanceMethod yX10_isPastIn, .selects RX10 yX10_isPastIn yX10_isPastIn, .initialized RX10, .code yX10_isPastIn cX10_isPastIn 3 (some .boolean), .fieldLink RX10 36 "WetSuitPedalsShoes$Trial" "all" "[I"] ++ wsX100 ++ wsX10)
def wsX10_slowest : List Cond := .code yX10_slowest cX10_slowest 3 (some .int) :: ([.fieldLink RX10 12 "WetSuitPedalsShoes$Trial" "course" "LWetSuitPedalsShoes$Course;", .fieldLink RX10 49 "WetSuitPedalsShoes$Course" "many" "I", .fieldLink RX10 29 "WetSuitPedalsShoes$Trial" "seconds" "[I", .fieldLink RX10 68 "WetSuitPedalsShoes$Course" "length" "[I"] ++ wsX100 ++ wsX10)
def wsX10_secondsOfChanges : List Cond := .code yX10_secondsOfChanges cX10_secondsOfChanges 3 (some .int) :: ([.fieldLink RX10 12 "WetSuitPedalsShoes$Trial" "course" "LWetSuitPedalsShoes$Course;", .fieldLink RX10 49 "WetSuitPedalsShoes$Course" "many" "I", .fieldLink RX10 65 "WetSuitPedalsShoes$Course" "kind" "[I", .fieldLink RX10 29 "WetSuitPedalsShoes$Trial" "seconds" "[I"] ++ wsX100 ++ wsX10)
def wsX11_init_r1 : List Cond := [Cond.methodLink RX11 1 objectInit, Cond.instanceMethod objectInit, Cond.code objectInit ⟨#[0xb1]⟩ 1 none, Cond.classLink RX11 7 RX3, Cond.instantiable RX3 3, Cond.initialized RX3, Cond.fieldLink RX11 10 "WetSuitPedalsShoes" "field" "LWetSuitPedalsShoes$Field;", Cond.fieldLink RX11 16 "WetSuitPedalsShoes" "kept" "LWetSuitPedalsShoes$Field;", Cond.fieldLink RX11 19 "WetSuitPedalsShoes" "imageTaken" "Z", Cond.classLink RX11 23 RX9, Cond.instantiable RX9 2, Cond.initialized RX9, Cond.fieldLink RX11 26 "WetSuitPedalsShoes" "text" "LWetSuitPedalsShoes$Text;", Cond.classLink RX11 30 RX8, Cond.instantiable RX8 2, Cond.initialized RX8, Cond.fieldLink RX11 33 "WetSuitPedalsShoes" "told" "LWetSuitPedalsShoes$Row;", Cond.arrayClass .int, Cond.fieldLink RX11 37 "WetSuitPedalsShoes" "refusals" "[I", Cond.classLink RX11 41 RX10, Cond.instantiable RX10 6, Cond.initialized RX10, Cond.fieldLink RX11 44 "WetSuitPedalsShoes" "trial" "LWetSuitPedalsShoes$Trial;", Cond.fieldLink RX11 48 "WetSuitPedalsShoes" "rival" "LWetSuitPedalsShoes$Trial;"]
def wsX11_init_r2 : List Cond := [Cond.classLink RX11 51 RX7, Cond.instantiable RX7 8, Cond.initialized RX7, Cond.fieldLink RX11 54 "WetSuitPedalsShoes" "planner" "LWetSuitPedalsShoes$Planner;", Cond.classLink RX11 58 RX2, Cond.instantiable RX2 2, Cond.initialized RX2, Cond.fieldLink RX11 61 "WetSuitPedalsShoes" "duel" "LWetSuitPedalsShoes$Duel;", Cond.classLink RX11 65 RX5, Cond.instantiable RX5 2, Cond.initialized RX5, Cond.fieldLink RX11 68 "WetSuitPedalsShoes" "dice" "LWetSuitPedalsShoes$Lots;", Cond.methodLink RX11 9 yX3_init, Cond.instanceMethod yX3_init, Cond.code yX3_init cX3_init 2 none, Cond.methodLink RX3 3 objectInit, Cond.classLink RX3 9 RX1, Cond.instantiable RX1 4, Cond.initialized RX1, Cond.fieldLink RX3 12 "WetSuitPedalsShoes$Field" "course" "LWetSuitPedalsShoes$Course;", Cond.classLink RX3 18 RX0, Cond.fieldLink RX3 20 "WetSuitPedalsShoes$Field" "athletes" "[LWetSuitPedalsShoes$Athlete;", Cond.fieldLink RX3 24 "WetSuitPedalsShoes$Field" "many" "I", Cond.instantiable RX0 2]
def wsX11_init_r3 : List Cond := [Cond.initialized RX0, Cond.instanceMethod yX1_init, Cond.code yX1_init cX1_init 1 none, Cond.methodLink RX1 3 objectInit, Cond.fieldLink RX1 9 "WetSuitPedalsShoes$Course" "many" "I", Cond.fieldLink RX1 15 "WetSuitPedalsShoes$Course" "kind" "[I", Cond.fieldLink RX1 19 "WetSuitPedalsShoes$Course" "figure" "[I", Cond.fieldLink RX1 22 "WetSuitPedalsShoes$Course" "length" "[I", Cond.instanceMethod yX0_init, Cond.code yX0_init cX0_init 1 none, Cond.methodLink RX0 3 objectInit, Cond.fieldLink RX0 9 "WetSuitPedalsShoes$Athlete" "able" "[I", Cond.fieldLink RX0 15 "WetSuitPedalsShoes$Athlete" "tries" "[I", Cond.instanceMethod yX9_init, Cond.code yX9_init cX9_init 1 none, Cond.methodLink RX9 3 objectInit, Cond.fieldLink RX9 9 "WetSuitPedalsShoes$Text" "many" "I", Cond.fieldLink RX9 15 "WetSuitPedalsShoes$Text" "letters" "[I", Cond.instanceMethod yX8_init, Cond.code yX8_init cX8_init 1 none, Cond.methodLink RX8 3 objectInit, Cond.fieldLink RX8 9 "WetSuitPedalsShoes$Row" "many" "I", Cond.fieldLink RX8 15 "WetSuitPedalsShoes$Row" "numbers" "[I", Cond.instanceMethod yX10_init]
def wsX11_init_r4 : List Cond := [Cond.code yX10_init cX10_init 1 none, Cond.methodLink RX10 3 objectInit, Cond.classLink RX10 9 RX1, Cond.fieldLink RX10 12 "WetSuitPedalsShoes$Trial" "course" "LWetSuitPedalsShoes$Course;", Cond.classLink RX10 18 RX0, Cond.fieldLink RX10 21 "WetSuitPedalsShoes$Trial" "who" "LWetSuitPedalsShoes$Athlete;", Cond.fieldLink RX10 25 "WetSuitPedalsShoes$Trial" "drinkBehind" "I", Cond.fieldLink RX10 29 "WetSuitPedalsShoes$Trial" "seconds" "[I", Cond.fieldLink RX10 33 "WetSuitPedalsShoes$Trial" "legs" "[I", Cond.fieldLink RX10 36 "WetSuitPedalsShoes$Trial" "all" "[I", Cond.instanceMethod yX7_init, Cond.code yX7_init cX7_init 1 none, Cond.methodLink RX7 3 objectInit, Cond.fieldLink RX7 9 "WetSuitPedalsShoes$Planner" "many" "I", Cond.fieldLink RX7 15 "WetSuitPedalsShoes$Planner" "legsAtStart" "I", Cond.fieldLink RX7 18 "WetSuitPedalsShoes$Planner" "kind" "[I", Cond.fieldLink RX7 22 "WetSuitPedalsShoes$Planner" "length" "[I", Cond.fieldLink RX7 25 "WetSuitPedalsShoes$Planner" "untried" "[I", Cond.classLink RX7 28 "[[I", Cond.fieldLink RX7 30 "WetSuitPedalsShoes$Planner" "toCome" "[[I", Cond.fieldLink RX7 33 "WetSuitPedalsShoes$Planner" "reached" "[I", Cond.fieldLink RX7 36 "WetSuitPedalsShoes$Planner" "next" "[I", Cond.instanceMethod yX2_init, Cond.code yX2_init cX2_init 1 none]
def wsX11_init_r5 : List Cond := [Cond.methodLink RX2 3 objectInit, Cond.fieldLink RX2 9 "WetSuitPedalsShoes$Duel" "first" "[I", Cond.fieldLink RX2 15 "WetSuitPedalsShoes$Duel" "second" "[I", Cond.instanceMethod yX5_init, Cond.code yX5_init cX5_init 1 none, Cond.methodLink RX5 1 objectInit, Cond.fieldLink RX5 7 "WetSuitPedalsShoes$Lots" "seed" "I", Cond.fieldLink RX5 13 "WetSuitPedalsShoes$Lots" "finishOfFirst" "I"]
def wsX11_init : List Cond := .code yX11_init cX11_init 1 none :: ((wsX11_init_r1 ++ (wsX11_init_r2 ++ (wsX11_init_r3 ++ (wsX11_init_r4 ++ wsX11_init_r5)))) ++ wsX30 ++ wsX110 ++ wsX90 ++ wsX80 ++ wsX100 ++ wsX70 ++ wsX20 ++ wsX50 ++ wsX10 ++ wsX00)
def wsX11_refuse : List Cond := .code yX11_refuse cX11_refuse 3 (some .int) :: ([.fieldLink RX11 37 "WetSuitPedalsShoes" "refusals" "[I"] ++ wsX110)
def wsX11_letter : List Cond := .code yX11_letter cX11_letter 2 (some .int) :: ([.fieldLink RX11 26 "WetSuitPedalsShoes" "text" "LWetSuitPedalsShoes$Text;", .methodLink RX11 72 yX11_refuse, .instanceMethod yX11_refuse, .selects RX11 yX11_refuse yX11_refuse, .initialized RX11, .code yX11_refuse cX11_refuse 3 (some .int), .fieldLink RX11 37 "WetSuitPedalsShoes" "refusals" "[I", .methodLink RX11 76 yX9_isFull, .instanceMethod yX9_isFull, .selects RX9 yX9_isFull yX9_isFull, .initialized RX9, .code yX9_isFull cX9_isFull 1 (some .boolean), .fieldLink RX9 9 "WetSuitPedalsShoes$Text" "many" "I", .methodLink RX11 80 yX9_put, .instanceMethod yX9_put, .selects RX9 yX9_put yX9_put, .code yX9_put cX9_put 2 (some .int), .fieldLink RX9 15 "WetSuitPedalsShoes$Text" "letters" "[I"] ++ wsX110 ++ wsX90)
def wsX11_race_r1 : List Cond := [Cond.fieldLink RX11 26 "WetSuitPedalsShoes" "text" "LWetSuitPedalsShoes$Text;", Cond.fieldLink RX11 10 "WetSuitPedalsShoes" "field" "LWetSuitPedalsShoes$Field;", Cond.methodLink RX11 83 yX9_faultIn, Cond.instanceMethod yX9_faultIn, Cond.selects RX9 yX9_faultIn yX9_faultIn, Cond.initialized RX9, Cond.code yX9_faultIn cX9_faultIn 3 (some .int), Cond.methodLink RX9 19 yX9_placeOfBadLetter, Cond.instanceMethod yX9_placeOfBadLetter, Cond.selects RX9 yX9_placeOfBadLetter yX9_placeOfBadLetter, Cond.code yX9_placeOfBadLetter cX9_placeOfBadLetter 5 (some .int), Cond.fieldLink RX9 9 "WetSuitPedalsShoes$Text" "many" "I", Cond.fieldLink RX9 15 "WetSuitPedalsShoes$Text" "letters" "[I", Cond.methodLink RX9 27 yX9_leastInside, Cond.static yX9_leastInside, Cond.code yX9_leastInside cX9_leastInside 1 (some .int), Cond.methodLink RX9 31 yX9_fits, Cond.static yX9_fits, Cond.code yX9_fits cX9_fits 3 (some .boolean), Cond.methodLink RX9 35 yX9_mostInside, Cond.static yX9_mostInside, Cond.code yX9_mostInside cX9_mostInside 1 (some .int), Cond.methodLink RX9 38 yX4_ofLetter, Cond.static yX4_ofLetter]
def wsX11_race_r2 : List Cond := [Cond.initialized RX4, Cond.code yX4_ofLetter cX4_ofLetter 1 (some .int), Cond.methodLink RX9 23 yX9_placeOfBadStatement, Cond.instanceMethod yX9_placeOfBadStatement, Cond.selects RX9 yX9_placeOfBadStatement yX9_placeOfBadStatement, Cond.code yX9_placeOfBadStatement cX9_placeOfBadStatement 7 (some .int), Cond.fieldLink RX9 43 "WetSuitPedalsShoes$Field" "course" "LWetSuitPedalsShoes$Course;", Cond.fieldLink RX9 49 "WetSuitPedalsShoes$Course" "many" "I", Cond.fieldLink RX9 52 "WetSuitPedalsShoes$Field" "many" "I", Cond.methodLink RX9 53 yX9_endOf, Cond.instanceMethod yX9_endOf, Cond.selects RX9 yX9_endOf yX9_endOf, Cond.code yX9_endOf cX9_endOf 3 (some .int), Cond.methodLink RX9 56 yX9_isAsItMustBe, Cond.instanceMethod yX9_isAsItMustBe, Cond.selects RX9 yX9_isAsItMustBe yX9_isAsItMustBe, Cond.code yX9_isAsItMustBe cX9_isAsItMustBe 7 (some .boolean), Cond.methodLink RX9 63 yX9_digit, Cond.instanceMethod yX9_digit, Cond.selects RX9 yX9_digit yX9_digit, Cond.code yX9_digit cX9_digit 2 (some .int), Cond.methodLink RX9 60 yX9_letterAt, Cond.instanceMethod yX9_letterAt, Cond.selects RX9 yX9_letterAt yX9_letterAt]
def wsX11_race_r3 : List Cond := [Cond.code yX9_letterAt cX9_letterAt 2 (some .int), Cond.methodLink RX9 66 yX9_areTries, Cond.instanceMethod yX9_areTries, Cond.selects RX9 yX9_areTries yX9_areTries, Cond.code yX9_areTries cX9_areTries 4 (some .boolean), Cond.methodLink RX11 87 yX9_tellTo, Cond.instanceMethod yX9_tellTo, Cond.selects RX9 yX9_tellTo yX9_tellTo, Cond.code yX9_tellTo cX9_tellTo 6 (some .int), Cond.methodLink RX9 70 yX9_tellOne, Cond.instanceMethod yX9_tellOne, Cond.selects RX9 yX9_tellOne yX9_tellOne, Cond.code yX9_tellOne cX9_tellOne 8 none, Cond.methodLink RX9 74 yX1_add, Cond.instanceMethod yX1_add, Cond.selects RX1 yX1_add yX1_add, Cond.initialized RX1, Cond.code yX1_add cX1_add 4 none, Cond.fieldLink RX1 9 "WetSuitPedalsShoes$Course" "many" "I", Cond.fieldLink RX1 15 "WetSuitPedalsShoes$Course" "kind" "[I", Cond.fieldLink RX1 19 "WetSuitPedalsShoes$Course" "figure" "[I", Cond.fieldLink RX1 22 "WetSuitPedalsShoes$Course" "length" "[I", Cond.methodLink RX9 78 yX3_add, Cond.instanceMethod yX3_add]
def wsX11_race_r4 : List Cond := [Cond.selects RX3 yX3_add yX3_add, Cond.initialized RX3, Cond.code yX3_add cX3_add 5 none, Cond.fieldLink RX3 24 "WetSuitPedalsShoes$Field" "many" "I", Cond.fieldLink RX3 20 "WetSuitPedalsShoes$Field" "athletes" "[LWetSuitPedalsShoes$Athlete;", Cond.methodLink RX3 29 yX0_start, Cond.instanceMethod yX0_start, Cond.selects RX0 yX0_start yX0_start, Cond.initialized RX0, Cond.code yX0_start cX0_start 6 none, Cond.fieldLink RX0 9 "WetSuitPedalsShoes$Athlete" "able" "[I", Cond.fieldLink RX0 15 "WetSuitPedalsShoes$Athlete" "tries" "[I", Cond.methodLink RX9 81 yX3_planTries, Cond.instanceMethod yX3_planTries, Cond.selects RX3 yX3_planTries yX3_planTries, Cond.code yX3_planTries cX3_planTries 4 none, Cond.fieldLink RX3 37 "WetSuitPedalsShoes$Athlete" "tries" "[I", Cond.methodLink RX3 33 yX3_has, Cond.instanceMethod yX3_has, Cond.selects RX3 yX3_has yX3_has, Cond.code yX3_has cX3_has 2 (some .boolean), Cond.methodLink RX9 84 yX1_exchange, Cond.instanceMethod yX1_exchange, Cond.selects RX1 yX1_exchange yX1_exchange]
def wsX11_race_r5 : List Cond := [Cond.code yX1_exchange cX1_exchange 3 none, Cond.methodLink RX1 31 yX1_has, Cond.instanceMethod yX1_has, Cond.selects RX1 yX1_has yX1_has, Cond.code yX1_has cX1_has 2 (some .boolean), Cond.methodLink RX1 35 yX1_exchange_, Cond.static yX1_exchange_, Cond.code yX1_exchange_ cX1_exchange_ 4 none, Cond.methodLink RX11 90 yX9_forget, Cond.instanceMethod yX9_forget, Cond.selects RX9 yX9_forget yX9_forget, Cond.code yX9_forget cX9_forget 1 none]
def wsX11_race : List Cond := .code yX11_race cX11_race 2 (some .int) :: ((wsX11_race_r1 ++ (wsX11_race_r2 ++ (wsX11_race_r3 ++ (wsX11_race_r4 ++ wsX11_race_r5)))) ++ wsX110 ++ wsX90 ++ wsX30 ++ wsX10 ++ wsX00)
def wsX11_section : List Cond := .code yX11_section cX11_section 3 (some .int) :: ([.fieldLink RX11 10 "WetSuitPedalsShoes" "field" "LWetSuitPedalsShoes$Field;", .fieldLink RX11 93 "WetSuitPedalsShoes$Field" "course" "LWetSuitPedalsShoes$Course;", .fieldLink RX11 103 "WetSuitPedalsShoes$Course" "kind" "[I", .fieldLink RX11 106 "WetSuitPedalsShoes$Course" "figure" "[I", .fieldLink RX11 109 "WetSuitPedalsShoes$Course" "length" "[I", .methodLink RX11 97 yX1_has, .instanceMethod yX1_has, .selects RX1 yX1_has yX1_has, .initialized RX1, .code yX1_has cX1_has 2 (some .boolean), .fieldLink RX1 9 "WetSuitPedalsShoes$Course" "many" "I", .methodLink RX11 72 yX11_refuse, .instanceMethod yX11_refuse, .selects RX11 yX11_refuse yX11_refuse, .initialized RX11, .code yX11_refuse cX11_refuse 3 (some .int), .fieldLink RX11 37 "WetSuitPedalsShoes" "refusals" "[I", .methodLink RX11 112 yX4_takes, .static yX4_takes, .initialized RX4, .code yX4_takes cX4_takes 1 (some .int)] ++ wsX110 ++ wsX30 ++ wsX10)
def wsX11_athlete : List Cond := .code yX11_athlete cX11_athlete 3 (some .int) :: ([.fieldLink RX11 10 "WetSuitPedalsShoes" "field" "LWetSuitPedalsShoes$Field;", .fieldLink RX11 118 "WetSuitPedalsShoes$Field" "athletes" "[LWetSuitPedalsShoes$Athlete;", .fieldLink RX11 122 "WetSuitPedalsShoes$Athlete" "able" "[I", .methodLink RX11 117 yX3_has, .instanceMethod yX3_has, .selects RX3 yX3_has yX3_has, .initialized RX3, .code yX3_has cX3_has 2 (some .boolean), .fieldLink RX3 24 "WetSuitPedalsShoes$Field" "many" "I", .methodLink RX11 72 yX11_refuse, .instanceMethod yX11_refuse, .selects RX11 yX11_refuse yX11_refuse, .initialized RX11, .code yX11_refuse cX11_refuse 3 (some .int), .fieldLink RX11 37 "WetSuitPedalsShoes" "refusals" "[I"] ++ wsX110 ++ wsX30 ++ wsX00)
def wsX11_tries : List Cond := .code yX11_tries cX11_tries 3 (some .int) :: ([.fieldLink RX11 10 "WetSuitPedalsShoes" "field" "LWetSuitPedalsShoes$Field;", .fieldLink RX11 93 "WetSuitPedalsShoes$Field" "course" "LWetSuitPedalsShoes$Course;", .fieldLink RX11 118 "WetSuitPedalsShoes$Field" "athletes" "[LWetSuitPedalsShoes$Athlete;", .fieldLink RX11 127 "WetSuitPedalsShoes$Athlete" "tries" "[I", .methodLink RX11 117 yX3_has, .instanceMethod yX3_has, .selects RX3 yX3_has yX3_has, .initialized RX3, .code yX3_has cX3_has 2 (some .boolean), .fieldLink RX3 24 "WetSuitPedalsShoes$Field" "many" "I", .methodLink RX11 97 yX1_has, .instanceMethod yX1_has, .selects RX1 yX1_has yX1_has, .initialized RX1, .code yX1_has cX1_has 2 (some .boolean), .fieldLink RX1 9 "WetSuitPedalsShoes$Course" "many" "I", .methodLink RX11 72 yX11_refuse, .instanceMethod yX11_refuse, .selects RX11 yX11_refuse yX11_refuse, .initialized RX11, .code yX11_refuse cX11_refuse 3 (some .int), .fieldLink RX11 37 "WetSuitPedalsShoes" "refusals" "[I"] ++ wsX110 ++ wsX30 ++ wsX00 ++ wsX10)
def wsX11_turn : List Cond := .code yX11_turn cX11_turn 5 (some .int) :: ([.fieldLink RX11 10 "WetSuitPedalsShoes" "field" "LWetSuitPedalsShoes$Field;", .fieldLink RX11 93 "WetSuitPedalsShoes$Field" "course" "LWetSuitPedalsShoes$Course;", .fieldLink RX11 103 "WetSuitPedalsShoes$Course" "kind" "[I", .fieldLink RX11 106 "WetSuitPedalsShoes$Course" "figure" "[I", .methodLink RX11 97 yX1_has, .instanceMethod yX1_has, .selects RX1 yX1_has yX1_has, .initialized RX1, .code yX1_has cX1_has 2 (some .boolean), .fieldLink RX1 9 "WetSuitPedalsShoes$Course" "many" "I", .methodLink RX11 72 yX11_refuse, .instanceMethod yX11_refuse, .selects RX11 yX11_refuse yX11_refuse, .initialized RX11, .code yX11_refuse cX11_refuse 3 (some .int), .fieldLink RX11 37 "WetSuitPedalsShoes" "refusals" "[I", .methodLink RX11 130 yX1_become_, .instanceMethod yX1_become_, .selects RX1 yX1_become_ yX1_become_, .code yX1_become_ cX1_become_ 4 none, .fieldLink RX1 15 "WetSuitPedalsShoes$Course" "kind" "[I", .fieldLink RX1 19 "WetSuitPedalsShoes$Course" "figure" "[I", .methodLink RX1 31 yX1_has] ++ wsX110 ++ wsX30 ++ wsX10)
def wsX11_swap_r1 : List Cond := [Cond.fieldLink RX11 10 "WetSuitPedalsShoes" "field" "LWetSuitPedalsShoes$Field;", Cond.fieldLink RX11 93 "WetSuitPedalsShoes$Field" "course" "LWetSuitPedalsShoes$Course;", Cond.fieldLink RX11 138 "WetSuitPedalsShoes$Course" "many" "I", Cond.methodLink RX11 97 yX1_has, Cond.instanceMethod yX1_has, Cond.selects RX1 yX1_has yX1_has, Cond.initialized RX1, Cond.code yX1_has cX1_has 2 (some .boolean), Cond.fieldLink RX1 9 "WetSuitPedalsShoes$Course" "many" "I", Cond.methodLink RX11 72 yX11_refuse, Cond.instanceMethod yX11_refuse, Cond.selects RX11 yX11_refuse yX11_refuse, Cond.initialized RX11, Cond.code yX11_refuse cX11_refuse 3 (some .int), Cond.fieldLink RX11 37 "WetSuitPedalsShoes" "refusals" "[I", Cond.methodLink RX11 134 yX1_exchange, Cond.instanceMethod yX1_exchange, Cond.selects RX1 yX1_exchange yX1_exchange, Cond.code yX1_exchange cX1_exchange 3 none, Cond.fieldLink RX1 15 "WetSuitPedalsShoes$Course" "kind" "[I", Cond.fieldLink RX1 19 "WetSuitPedalsShoes$Course" "figure" "[I", Cond.fieldLink RX1 22 "WetSuitPedalsShoes$Course" "length" "[I", Cond.methodLink RX1 31 yX1_has, Cond.methodLink RX1 35 yX1_exchange_]
def wsX11_swap_r2 : List Cond := [Cond.static yX1_exchange_, Cond.code yX1_exchange_ cX1_exchange_ 4 none]
def wsX11_swap : List Cond := .code yX11_swap cX11_swap 3 (some .int) :: ((wsX11_swap_r1 ++ wsX11_swap_r2) ++ wsX110 ++ wsX30 ++ wsX10)
def wsX11_skill : List Cond := .code yX11_skill cX11_skill 5 (some .int) :: ([.fieldLink RX11 10 "WetSuitPedalsShoes" "field" "LWetSuitPedalsShoes$Field;", .fieldLink RX11 118 "WetSuitPedalsShoes$Field" "athletes" "[LWetSuitPedalsShoes$Athlete;", .fieldLink RX11 122 "WetSuitPedalsShoes$Athlete" "able" "[I", .methodLink RX11 117 yX3_has, .instanceMethod yX3_has, .selects RX3 yX3_has yX3_has, .initialized RX3, .code yX3_has cX3_has 2 (some .boolean), .fieldLink RX3 24 "WetSuitPedalsShoes$Field" "many" "I", .methodLink RX11 72 yX11_refuse, .instanceMethod yX11_refuse, .selects RX11 yX11_refuse yX11_refuse, .initialized RX11, .code yX11_refuse cX11_refuse 3 (some .int), .fieldLink RX11 37 "WetSuitPedalsShoes" "refusals" "[I"] ++ wsX110 ++ wsX30 ++ wsX00)
def wsX11_tryHard : List Cond := .code yX11_tryHard cX11_tryHard 5 (some .int) :: ([.fieldLink RX11 10 "WetSuitPedalsShoes" "field" "LWetSuitPedalsShoes$Field;", .fieldLink RX11 93 "WetSuitPedalsShoes$Field" "course" "LWetSuitPedalsShoes$Course;", .fieldLink RX11 118 "WetSuitPedalsShoes$Field" "athletes" "[LWetSuitPedalsShoes$Athlete;", .fieldLink RX11 127 "WetSuitPedalsShoes$Athlete" "tries" "[I", .methodLink RX11 117 yX3_has, .instanceMethod yX3_has, .selects RX3 yX3_has yX3_has, .initialized RX3, .code yX3_has cX3_has 2 (some .boolean), .fieldLink RX3 24 "WetSuitPedalsShoes$Field" "many" "I", .methodLink RX11 97 yX1_has, .instanceMethod yX1_has, .selects RX1 yX1_has yX1_has, .initialized RX1, .code yX1_has cX1_has 2 (some .boolean), .fieldLink RX1 9 "WetSuitPedalsShoes$Course" "many" "I", .methodLink RX11 72 yX11_refuse, .instanceMethod yX11_refuse, .selects RX11 yX11_refuse yX11_refuse, .initialized RX11, .code yX11_refuse cX11_refuse 3 (some .int), .fieldLink RX11 37 "WetSuitPedalsShoes" "refusals" "[I"] ++ wsX110 ++ wsX30 ++ wsX00 ++ wsX10)
def wsX11_runPlan_r1 : List Cond := [Cond.fieldLink RX11 44 "WetSuitPedalsShoes" "trial" "LWetSuitPedalsShoes$Trial;", Cond.fieldLink RX11 10 "WetSuitPedalsShoes" "field" "LWetSuitPedalsShoes$Field;", Cond.fieldLink RX11 93 "WetSuitPedalsShoes$Field" "course" "LWetSuitPedalsShoes$Course;", Cond.fieldLink RX11 118 "WetSuitPedalsShoes$Field" "athletes" "[LWetSuitPedalsShoes$Athlete;", Cond.methodLink RX11 164 yX10_load, Cond.instanceMethod yX10_load, Cond.selects RX10 yX10_load yX10_load, Cond.initialized RX10, Cond.code yX10_load cX10_load 3 none, Cond.fieldLink RX10 12 "WetSuitPedalsShoes$Trial" "course" "LWetSuitPedalsShoes$Course;", Cond.fieldLink RX10 21 "WetSuitPedalsShoes$Trial" "who" "LWetSuitPedalsShoes$Athlete;", Cond.fieldLink RX10 25 "WetSuitPedalsShoes$Trial" "drinkBehind" "I", Cond.methodLink RX10 39 yX1_become, Cond.instanceMethod yX1_become, Cond.selects RX1 yX1_become yX1_become, Cond.initialized RX1, Cond.code yX1_become cX1_become 2 none, Cond.fieldLink RX1 9 "WetSuitPedalsShoes$Course" "many" "I", Cond.fieldLink RX1 15 "WetSuitPedalsShoes$Course" "kind" "[I", Cond.methodLink RX1 25 arraycopyName, Cond.native arraycopyName, Cond.static arraycopyName, Cond.initialized "java/lang/System", Cond.fieldLink RX1 19 "WetSuitPedalsShoes$Course" "figure" "[I"]
def wsX11_runPlan_r2 : List Cond := [Cond.fieldLink RX1 22 "WetSuitPedalsShoes$Course" "length" "[I", Cond.methodLink RX10 43 yX0_become, Cond.instanceMethod yX0_become, Cond.selects RX0 yX0_become yX0_become, Cond.initialized RX0, Cond.code yX0_become cX0_become 2 none, Cond.fieldLink RX0 9 "WetSuitPedalsShoes$Athlete" "able" "[I", Cond.methodLink RX0 18 arraycopyName, Cond.fieldLink RX0 15 "WetSuitPedalsShoes$Athlete" "tries" "[I", Cond.methodLink RX11 168 yX10_run, Cond.instanceMethod yX10_run, Cond.selects RX10 yX10_run yX10_run, Cond.code yX10_run cX10_run 5 (some .int), Cond.fieldLink RX10 46 "WetSuitPedalsShoes$Athlete" "able" "[I", Cond.fieldLink RX10 49 "WetSuitPedalsShoes$Course" "many" "I", Cond.fieldLink RX10 52 "WetSuitPedalsShoes$Athlete" "tries" "[I", Cond.fieldLink RX10 29 "WetSuitPedalsShoes$Trial" "seconds" "[I", Cond.fieldLink RX10 65 "WetSuitPedalsShoes$Course" "kind" "[I", Cond.fieldLink RX10 68 "WetSuitPedalsShoes$Course" "length" "[I", Cond.methodLink RX10 75 Lib.Math.min.name, Cond.static Lib.Math.min.name, Cond.initialized "java/lang/Math", Cond.code Lib.Math.min.name Lib.Math.min.code 2 (some .int), Cond.fieldLink RX10 33 "WetSuitPedalsShoes$Trial" "legs" "[I"]
def wsX11_runPlan_r3 : List Cond := [Cond.fieldLink RX10 36 "WetSuitPedalsShoes$Trial" "all" "[I", Cond.methodLink RX10 55 yX1_untried, Cond.instanceMethod yX1_untried, Cond.selects RX1 yX1_untried yX1_untried, Cond.code yX1_untried cX1_untried 6 (some .int), Cond.fieldLink RX1 39 "WetSuitPedalsShoes$Athlete" "able" "[I", Cond.methodLink RX1 44 yX1_isBehindRide, Cond.instanceMethod yX1_isBehindRide, Cond.selects RX1 yX1_isBehindRide yX1_isBehindRide, Cond.code yX1_isBehindRide cX1_isBehindRide 2 (some .boolean), Cond.methodLink RX1 47 yX4_isRide, Cond.static yX4_isRide, Cond.initialized RX4, Cond.code yX4_isRide cX4_isRide 1 (some .boolean), Cond.methodLink RX10 59 yX4_secondsTrying, Cond.static yX4_secondsTrying, Cond.code yX4_secondsTrying cX4_secondsTrying 3 (some .int), Cond.methodLink RX10 71 yX4_legsBehind, Cond.static yX4_legsBehind, Cond.code yX4_legsBehind cX4_legsBehind 5 (some .int), Cond.methodLink RX4 15 Lib.Math.max.name, Cond.static Lib.Math.max.name, Cond.code Lib.Math.max.name Lib.Math.max.code 2 (some .int), Cond.methodLink RX4 21 Lib.Math.min.name]
def wsX11_runPlan_r4 : List Cond := [Cond.methodLink RX4 11 yX4_takes, Cond.static yX4_takes, Cond.code yX4_takes cX4_takes 1 (some .int)]
def wsX11_runPlan : List Cond := .code yX11_runPlan cX11_runPlan 2 (some .int) :: ((wsX11_runPlan_r1 ++ (wsX11_runPlan_r2 ++ (wsX11_runPlan_r3 ++ wsX11_runPlan_r4))) ++ wsX110 ++ wsX30 ++ wsX100 ++ wsX10 ++ wsX00)
def wsX11_by_r1 : List Cond := [Cond.fieldLink RX11 10 "WetSuitPedalsShoes" "field" "LWetSuitPedalsShoes$Field;", Cond.fieldLink RX11 93 "WetSuitPedalsShoes$Field" "course" "LWetSuitPedalsShoes$Course;", Cond.fieldLink RX11 44 "WetSuitPedalsShoes" "trial" "LWetSuitPedalsShoes$Trial;", Cond.fieldLink RX11 145 "WetSuitPedalsShoes$Trial" "seconds" "[I", Cond.fieldLink RX11 148 "WetSuitPedalsShoes$Trial" "legs" "[I", Cond.fieldLink RX11 151 "WetSuitPedalsShoes$Trial" "all" "[I", Cond.methodLink RX11 117 yX3_has, Cond.instanceMethod yX3_has, Cond.selects RX3 yX3_has yX3_has, Cond.initialized RX3, Cond.code yX3_has cX3_has 2 (some .boolean), Cond.fieldLink RX3 24 "WetSuitPedalsShoes$Field" "many" "I", Cond.methodLink RX11 97 yX1_has, Cond.instanceMethod yX1_has, Cond.selects RX1 yX1_has yX1_has, Cond.initialized RX1, Cond.code yX1_has cX1_has 2 (some .boolean), Cond.fieldLink RX1 9 "WetSuitPedalsShoes$Course" "many" "I", Cond.methodLink RX11 72 yX11_refuse, Cond.instanceMethod yX11_refuse, Cond.selects RX11 yX11_refuse yX11_refuse, Cond.initialized RX11, Cond.code yX11_refuse cX11_refuse 3 (some .int), Cond.fieldLink RX11 37 "WetSuitPedalsShoes" "refusals" "[I"]
def wsX11_by_r2 : List Cond := [Cond.methodLink RX11 142 yX11_runPlan, Cond.instanceMethod yX11_runPlan, Cond.selects RX11 yX11_runPlan yX11_runPlan, Cond.code yX11_runPlan cX11_runPlan 2 (some .int), Cond.fieldLink RX11 118 "WetSuitPedalsShoes$Field" "athletes" "[LWetSuitPedalsShoes$Athlete;", Cond.methodLink RX11 164 yX10_load, Cond.instanceMethod yX10_load, Cond.selects RX10 yX10_load yX10_load, Cond.initialized RX10, Cond.code yX10_load cX10_load 3 none, Cond.fieldLink RX10 12 "WetSuitPedalsShoes$Trial" "course" "LWetSuitPedalsShoes$Course;", Cond.fieldLink RX10 21 "WetSuitPedalsShoes$Trial" "who" "LWetSuitPedalsShoes$Athlete;", Cond.fieldLink RX10 25 "WetSuitPedalsShoes$Trial" "drinkBehind" "I", Cond.methodLink RX10 39 yX1_become, Cond.instanceMethod yX1_become, Cond.selects RX1 yX1_become yX1_become, Cond.code yX1_become cX1_become 2 none, Cond.fieldLink RX1 15 "WetSuitPedalsShoes$Course" "kind" "[I", Cond.methodLink RX1 25 arraycopyName, Cond.native arraycopyName, Cond.static arraycopyName, Cond.initialized "java/lang/System", Cond.fieldLink RX1 19 "WetSuitPedalsShoes$Course" "figure" "[I", Cond.fieldLink RX1 22 "WetSuitPedalsShoes$Course" "length" "[I"]
def wsX11_by_r3 : List Cond := [Cond.methodLink RX10 43 yX0_become, Cond.instanceMethod yX0_become, Cond.selects RX0 yX0_become yX0_become, Cond.initialized RX0, Cond.code yX0_become cX0_become 2 none, Cond.fieldLink RX0 9 "WetSuitPedalsShoes$Athlete" "able" "[I", Cond.methodLink RX0 18 arraycopyName, Cond.fieldLink RX0 15 "WetSuitPedalsShoes$Athlete" "tries" "[I", Cond.methodLink RX11 168 yX10_run, Cond.instanceMethod yX10_run, Cond.selects RX10 yX10_run yX10_run, Cond.code yX10_run cX10_run 5 (some .int), Cond.fieldLink RX10 46 "WetSuitPedalsShoes$Athlete" "able" "[I", Cond.fieldLink RX10 49 "WetSuitPedalsShoes$Course" "many" "I", Cond.fieldLink RX10 52 "WetSuitPedalsShoes$Athlete" "tries" "[I", Cond.fieldLink RX10 29 "WetSuitPedalsShoes$Trial" "seconds" "[I", Cond.fieldLink RX10 65 "WetSuitPedalsShoes$Course" "kind" "[I", Cond.fieldLink RX10 68 "WetSuitPedalsShoes$Course" "length" "[I", Cond.methodLink RX10 75 Lib.Math.min.name, Cond.static Lib.Math.min.name, Cond.initialized "java/lang/Math", Cond.code Lib.Math.min.name Lib.Math.min.code 2 (some .int), Cond.fieldLink RX10 33 "WetSuitPedalsShoes$Trial" "legs" "[I", Cond.fieldLink RX10 36 "WetSuitPedalsShoes$Trial" "all" "[I"]
def wsX11_by_r4 : List Cond := [Cond.methodLink RX10 55 yX1_untried, Cond.instanceMethod yX1_untried, Cond.selects RX1 yX1_untried yX1_untried, Cond.code yX1_untried cX1_untried 6 (some .int), Cond.fieldLink RX1 39 "WetSuitPedalsShoes$Athlete" "able" "[I", Cond.methodLink RX1 44 yX1_isBehindRide, Cond.instanceMethod yX1_isBehindRide, Cond.selects RX1 yX1_isBehindRide yX1_isBehindRide, Cond.code yX1_isBehindRide cX1_isBehindRide 2 (some .boolean), Cond.methodLink RX1 47 yX4_isRide, Cond.static yX4_isRide, Cond.initialized RX4, Cond.code yX4_isRide cX4_isRide 1 (some .boolean), Cond.methodLink RX10 59 yX4_secondsTrying, Cond.static yX4_secondsTrying, Cond.code yX4_secondsTrying cX4_secondsTrying 3 (some .int), Cond.methodLink RX10 71 yX4_legsBehind, Cond.static yX4_legsBehind, Cond.code yX4_legsBehind cX4_legsBehind 5 (some .int), Cond.methodLink RX4 15 Lib.Math.max.name, Cond.static Lib.Math.max.name, Cond.code Lib.Math.max.name Lib.Math.max.code 2 (some .int), Cond.methodLink RX4 21 Lib.Math.min.name, Cond.methodLink RX4 11 yX4_takes]
def wsX11_by_r5 : List Cond := [Cond.static yX4_takes, Cond.code yX4_takes cX4_takes 1 (some .int)]
def wsX11_by : List Cond := .code yX11_by cX11_by 4 (some .int) :: ((wsX11_by_r1 ++ (wsX11_by_r2 ++ (wsX11_by_r3 ++ (wsX11_by_r4 ++ wsX11_by_r5)))) ++ wsX110 ++ wsX30 ++ wsX100 ++ wsX10 ++ wsX00)
def wsX11_placeBehind_r1 : List Cond := [Cond.fieldLink RX11 10 "WetSuitPedalsShoes" "field" "LWetSuitPedalsShoes$Field;", Cond.fieldLink RX11 241 "WetSuitPedalsShoes$Field" "many" "I", Cond.methodLink RX11 142 yX11_runPlan, Cond.instanceMethod yX11_runPlan, Cond.selects RX11 yX11_runPlan yX11_runPlan, Cond.initialized RX11, Cond.code yX11_runPlan cX11_runPlan 2 (some .int), Cond.fieldLink RX11 44 "WetSuitPedalsShoes" "trial" "LWetSuitPedalsShoes$Trial;", Cond.fieldLink RX11 93 "WetSuitPedalsShoes$Field" "course" "LWetSuitPedalsShoes$Course;", Cond.fieldLink RX11 118 "WetSuitPedalsShoes$Field" "athletes" "[LWetSuitPedalsShoes$Athlete;", Cond.methodLink RX11 164 yX10_load, Cond.instanceMethod yX10_load, Cond.selects RX10 yX10_load yX10_load, Cond.initialized RX10, Cond.code yX10_load cX10_load 3 none, Cond.fieldLink RX10 12 "WetSuitPedalsShoes$Trial" "course" "LWetSuitPedalsShoes$Course;", Cond.fieldLink RX10 21 "WetSuitPedalsShoes$Trial" "who" "LWetSuitPedalsShoes$Athlete;", Cond.fieldLink RX10 25 "WetSuitPedalsShoes$Trial" "drinkBehind" "I", Cond.methodLink RX10 39 yX1_become, Cond.instanceMethod yX1_become, Cond.selects RX1 yX1_become yX1_become, Cond.initialized RX1, Cond.code yX1_become cX1_become 2 none, Cond.fieldLink RX1 9 "WetSuitPedalsShoes$Course" "many" "I"]
def wsX11_placeBehind_r2 : List Cond := [Cond.fieldLink RX1 15 "WetSuitPedalsShoes$Course" "kind" "[I", Cond.methodLink RX1 25 arraycopyName, Cond.native arraycopyName, Cond.static arraycopyName, Cond.initialized "java/lang/System", Cond.fieldLink RX1 19 "WetSuitPedalsShoes$Course" "figure" "[I", Cond.fieldLink RX1 22 "WetSuitPedalsShoes$Course" "length" "[I", Cond.methodLink RX10 43 yX0_become, Cond.instanceMethod yX0_become, Cond.selects RX0 yX0_become yX0_become, Cond.initialized RX0, Cond.code yX0_become cX0_become 2 none, Cond.fieldLink RX0 9 "WetSuitPedalsShoes$Athlete" "able" "[I", Cond.methodLink RX0 18 arraycopyName, Cond.fieldLink RX0 15 "WetSuitPedalsShoes$Athlete" "tries" "[I", Cond.methodLink RX11 168 yX10_run, Cond.instanceMethod yX10_run, Cond.selects RX10 yX10_run yX10_run, Cond.code yX10_run cX10_run 5 (some .int), Cond.fieldLink RX10 46 "WetSuitPedalsShoes$Athlete" "able" "[I", Cond.fieldLink RX10 49 "WetSuitPedalsShoes$Course" "many" "I", Cond.fieldLink RX10 52 "WetSuitPedalsShoes$Athlete" "tries" "[I", Cond.fieldLink RX10 29 "WetSuitPedalsShoes$Trial" "seconds" "[I", Cond.fieldLink RX10 65 "WetSuitPedalsShoes$Course" "kind" "[I"]
def wsX11_placeBehind_r3 : List Cond := [Cond.fieldLink RX10 68 "WetSuitPedalsShoes$Course" "length" "[I", Cond.methodLink RX10 75 Lib.Math.min.name, Cond.static Lib.Math.min.name, Cond.initialized "java/lang/Math", Cond.code Lib.Math.min.name Lib.Math.min.code 2 (some .int), Cond.fieldLink RX10 33 "WetSuitPedalsShoes$Trial" "legs" "[I", Cond.fieldLink RX10 36 "WetSuitPedalsShoes$Trial" "all" "[I", Cond.methodLink RX10 55 yX1_untried, Cond.instanceMethod yX1_untried, Cond.selects RX1 yX1_untried yX1_untried, Cond.code yX1_untried cX1_untried 6 (some .int), Cond.fieldLink RX1 39 "WetSuitPedalsShoes$Athlete" "able" "[I", Cond.methodLink RX1 44 yX1_isBehindRide, Cond.instanceMethod yX1_isBehindRide, Cond.selects RX1 yX1_isBehindRide yX1_isBehindRide, Cond.code yX1_isBehindRide cX1_isBehindRide 2 (some .boolean), Cond.methodLink RX1 47 yX4_isRide, Cond.static yX4_isRide, Cond.initialized RX4, Cond.code yX4_isRide cX4_isRide 1 (some .boolean), Cond.methodLink RX10 59 yX4_secondsTrying, Cond.static yX4_secondsTrying, Cond.code yX4_secondsTrying cX4_secondsTrying 3 (some .int), Cond.methodLink RX10 71 yX4_legsBehind]
def wsX11_placeBehind_r4 : List Cond := [Cond.static yX4_legsBehind, Cond.code yX4_legsBehind cX4_legsBehind 5 (some .int), Cond.methodLink RX4 15 Lib.Math.max.name, Cond.static Lib.Math.max.name, Cond.code Lib.Math.max.name Lib.Math.max.code 2 (some .int), Cond.methodLink RX4 21 Lib.Math.min.name, Cond.methodLink RX4 11 yX4_takes, Cond.static yX4_takes, Cond.code yX4_takes cX4_takes 1 (some .int)]
def wsX11_placeBehind : List Cond := .code yX11_placeBehind cX11_placeBehind 4 (some .int) :: ((wsX11_placeBehind_r1 ++ (wsX11_placeBehind_r2 ++ (wsX11_placeBehind_r3 ++ wsX11_placeBehind_r4))) ++ wsX110 ++ wsX30 ++ wsX100 ++ wsX10 ++ wsX00)
def wsX11_finish_r1 : List Cond := [Cond.fieldLink RX11 10 "WetSuitPedalsShoes" "field" "LWetSuitPedalsShoes$Field;", Cond.fieldLink RX11 44 "WetSuitPedalsShoes" "trial" "LWetSuitPedalsShoes$Trial;", Cond.methodLink RX11 117 yX3_has, Cond.instanceMethod yX3_has, Cond.selects RX3 yX3_has yX3_has, Cond.initialized RX3, Cond.code yX3_has cX3_has 2 (some .boolean), Cond.fieldLink RX3 24 "WetSuitPedalsShoes$Field" "many" "I", Cond.methodLink RX11 72 yX11_refuse, Cond.instanceMethod yX11_refuse, Cond.selects RX11 yX11_refuse yX11_refuse, Cond.initialized RX11, Cond.code yX11_refuse cX11_refuse 3 (some .int), Cond.fieldLink RX11 37 "WetSuitPedalsShoes" "refusals" "[I", Cond.methodLink RX11 142 yX11_runPlan, Cond.instanceMethod yX11_runPlan, Cond.selects RX11 yX11_runPlan yX11_runPlan, Cond.code yX11_runPlan cX11_runPlan 2 (some .int), Cond.fieldLink RX11 93 "WetSuitPedalsShoes$Field" "course" "LWetSuitPedalsShoes$Course;", Cond.fieldLink RX11 118 "WetSuitPedalsShoes$Field" "athletes" "[LWetSuitPedalsShoes$Athlete;", Cond.methodLink RX11 164 yX10_load, Cond.instanceMethod yX10_load, Cond.selects RX10 yX10_load yX10_load, Cond.initialized RX10]
def wsX11_finish_r2 : List Cond := [Cond.code yX10_load cX10_load 3 none, Cond.fieldLink RX10 12 "WetSuitPedalsShoes$Trial" "course" "LWetSuitPedalsShoes$Course;", Cond.fieldLink RX10 21 "WetSuitPedalsShoes$Trial" "who" "LWetSuitPedalsShoes$Athlete;", Cond.fieldLink RX10 25 "WetSuitPedalsShoes$Trial" "drinkBehind" "I", Cond.methodLink RX10 39 yX1_become, Cond.instanceMethod yX1_become, Cond.selects RX1 yX1_become yX1_become, Cond.initialized RX1, Cond.code yX1_become cX1_become 2 none, Cond.fieldLink RX1 9 "WetSuitPedalsShoes$Course" "many" "I", Cond.fieldLink RX1 15 "WetSuitPedalsShoes$Course" "kind" "[I", Cond.methodLink RX1 25 arraycopyName, Cond.native arraycopyName, Cond.static arraycopyName, Cond.initialized "java/lang/System", Cond.fieldLink RX1 19 "WetSuitPedalsShoes$Course" "figure" "[I", Cond.fieldLink RX1 22 "WetSuitPedalsShoes$Course" "length" "[I", Cond.methodLink RX10 43 yX0_become, Cond.instanceMethod yX0_become, Cond.selects RX0 yX0_become yX0_become, Cond.initialized RX0, Cond.code yX0_become cX0_become 2 none, Cond.fieldLink RX0 9 "WetSuitPedalsShoes$Athlete" "able" "[I", Cond.methodLink RX0 18 arraycopyName]
def wsX11_finish_r3 : List Cond := [Cond.fieldLink RX0 15 "WetSuitPedalsShoes$Athlete" "tries" "[I", Cond.methodLink RX11 168 yX10_run, Cond.instanceMethod yX10_run, Cond.selects RX10 yX10_run yX10_run, Cond.code yX10_run cX10_run 5 (some .int), Cond.fieldLink RX10 46 "WetSuitPedalsShoes$Athlete" "able" "[I", Cond.fieldLink RX10 49 "WetSuitPedalsShoes$Course" "many" "I", Cond.fieldLink RX10 52 "WetSuitPedalsShoes$Athlete" "tries" "[I", Cond.fieldLink RX10 29 "WetSuitPedalsShoes$Trial" "seconds" "[I", Cond.fieldLink RX10 65 "WetSuitPedalsShoes$Course" "kind" "[I", Cond.fieldLink RX10 68 "WetSuitPedalsShoes$Course" "length" "[I", Cond.methodLink RX10 75 Lib.Math.min.name, Cond.static Lib.Math.min.name, Cond.initialized "java/lang/Math", Cond.code Lib.Math.min.name Lib.Math.min.code 2 (some .int), Cond.fieldLink RX10 33 "WetSuitPedalsShoes$Trial" "legs" "[I", Cond.fieldLink RX10 36 "WetSuitPedalsShoes$Trial" "all" "[I", Cond.methodLink RX10 55 yX1_untried, Cond.instanceMethod yX1_untried, Cond.selects RX1 yX1_untried yX1_untried, Cond.code yX1_untried cX1_untried 6 (some .int), Cond.fieldLink RX1 39 "WetSuitPedalsShoes$Athlete" "able" "[I", Cond.methodLink RX1 44 yX1_isBehindRide, Cond.instanceMethod yX1_isBehindRide]
def wsX11_finish_r4 : List Cond := [Cond.selects RX1 yX1_isBehindRide yX1_isBehindRide, Cond.code yX1_isBehindRide cX1_isBehindRide 2 (some .boolean), Cond.methodLink RX1 47 yX4_isRide, Cond.static yX4_isRide, Cond.initialized RX4, Cond.code yX4_isRide cX4_isRide 1 (some .boolean), Cond.methodLink RX10 59 yX4_secondsTrying, Cond.static yX4_secondsTrying, Cond.code yX4_secondsTrying cX4_secondsTrying 3 (some .int), Cond.methodLink RX10 71 yX4_legsBehind, Cond.static yX4_legsBehind, Cond.code yX4_legsBehind cX4_legsBehind 5 (some .int), Cond.methodLink RX4 15 Lib.Math.max.name, Cond.static Lib.Math.max.name, Cond.code Lib.Math.max.name Lib.Math.max.code 2 (some .int), Cond.methodLink RX4 21 Lib.Math.min.name, Cond.methodLink RX4 11 yX4_takes, Cond.static yX4_takes, Cond.code yX4_takes cX4_takes 1 (some .int), Cond.methodLink RX11 154 yX10_gone, Cond.instanceMethod yX10_gone, Cond.selects RX10 yX10_gone yX10_gone, Cond.code yX10_gone cX10_gone 2 (some .int), Cond.methodLink RX11 158 yX11_placeBehind]
def wsX11_finish_r5 : List Cond := [Cond.instanceMethod yX11_placeBehind, Cond.selects RX11 yX11_placeBehind yX11_placeBehind, Cond.code yX11_placeBehind cX11_placeBehind 4 (some .int), Cond.fieldLink RX11 241 "WetSuitPedalsShoes$Field" "many" "I"]
def wsX11_finish : List Cond := .code yX11_finish cX11_finish 4 (some .int) :: ((wsX11_finish_r1 ++ (wsX11_finish_r2 ++ (wsX11_finish_r3 ++ (wsX11_finish_r4 ++ wsX11_finish_r5)))) ++ wsX110 ++ wsX30 ++ wsX100 ++ wsX10 ++ wsX00)
def wsX11_at_r1 : List Cond := [Cond.fieldLink RX11 10 "WetSuitPedalsShoes" "field" "LWetSuitPedalsShoes$Field;", Cond.fieldLink RX11 44 "WetSuitPedalsShoes" "trial" "LWetSuitPedalsShoes$Trial;", Cond.methodLink RX11 117 yX3_has, Cond.instanceMethod yX3_has, Cond.selects RX3 yX3_has yX3_has, Cond.initialized RX3, Cond.code yX3_has cX3_has 2 (some .boolean), Cond.fieldLink RX3 24 "WetSuitPedalsShoes$Field" "many" "I", Cond.methodLink RX11 72 yX11_refuse, Cond.instanceMethod yX11_refuse, Cond.selects RX11 yX11_refuse yX11_refuse, Cond.initialized RX11, Cond.code yX11_refuse cX11_refuse 3 (some .int), Cond.fieldLink RX11 37 "WetSuitPedalsShoes" "refusals" "[I", Cond.methodLink RX11 142 yX11_runPlan, Cond.instanceMethod yX11_runPlan, Cond.selects RX11 yX11_runPlan yX11_runPlan, Cond.code yX11_runPlan cX11_runPlan 2 (some .int), Cond.fieldLink RX11 93 "WetSuitPedalsShoes$Field" "course" "LWetSuitPedalsShoes$Course;", Cond.fieldLink RX11 118 "WetSuitPedalsShoes$Field" "athletes" "[LWetSuitPedalsShoes$Athlete;", Cond.methodLink RX11 164 yX10_load, Cond.instanceMethod yX10_load, Cond.selects RX10 yX10_load yX10_load, Cond.initialized RX10]
def wsX11_at_r2 : List Cond := [Cond.code yX10_load cX10_load 3 none, Cond.fieldLink RX10 12 "WetSuitPedalsShoes$Trial" "course" "LWetSuitPedalsShoes$Course;", Cond.fieldLink RX10 21 "WetSuitPedalsShoes$Trial" "who" "LWetSuitPedalsShoes$Athlete;", Cond.fieldLink RX10 25 "WetSuitPedalsShoes$Trial" "drinkBehind" "I", Cond.methodLink RX10 39 yX1_become, Cond.instanceMethod yX1_become, Cond.selects RX1 yX1_become yX1_become, Cond.initialized RX1, Cond.code yX1_become cX1_become 2 none, Cond.fieldLink RX1 9 "WetSuitPedalsShoes$Course" "many" "I", Cond.fieldLink RX1 15 "WetSuitPedalsShoes$Course" "kind" "[I", Cond.methodLink RX1 25 arraycopyName, Cond.native arraycopyName, Cond.static arraycopyName, Cond.initialized "java/lang/System", Cond.fieldLink RX1 19 "WetSuitPedalsShoes$Course" "figure" "[I", Cond.fieldLink RX1 22 "WetSuitPedalsShoes$Course" "length" "[I", Cond.methodLink RX10 43 yX0_become, Cond.instanceMethod yX0_become, Cond.selects RX0 yX0_become yX0_become, Cond.initialized RX0, Cond.code yX0_become cX0_become 2 none, Cond.fieldLink RX0 9 "WetSuitPedalsShoes$Athlete" "able" "[I", Cond.methodLink RX0 18 arraycopyName]
def wsX11_at_r3 : List Cond := [Cond.fieldLink RX0 15 "WetSuitPedalsShoes$Athlete" "tries" "[I", Cond.methodLink RX11 168 yX10_run, Cond.instanceMethod yX10_run, Cond.selects RX10 yX10_run yX10_run, Cond.code yX10_run cX10_run 5 (some .int), Cond.fieldLink RX10 46 "WetSuitPedalsShoes$Athlete" "able" "[I", Cond.fieldLink RX10 49 "WetSuitPedalsShoes$Course" "many" "I", Cond.fieldLink RX10 52 "WetSuitPedalsShoes$Athlete" "tries" "[I", Cond.fieldLink RX10 29 "WetSuitPedalsShoes$Trial" "seconds" "[I", Cond.fieldLink RX10 65 "WetSuitPedalsShoes$Course" "kind" "[I", Cond.fieldLink RX10 68 "WetSuitPedalsShoes$Course" "length" "[I", Cond.methodLink RX10 75 Lib.Math.min.name, Cond.static Lib.Math.min.name, Cond.initialized "java/lang/Math", Cond.code Lib.Math.min.name Lib.Math.min.code 2 (some .int), Cond.fieldLink RX10 33 "WetSuitPedalsShoes$Trial" "legs" "[I", Cond.fieldLink RX10 36 "WetSuitPedalsShoes$Trial" "all" "[I", Cond.methodLink RX10 55 yX1_untried, Cond.instanceMethod yX1_untried, Cond.selects RX1 yX1_untried yX1_untried, Cond.code yX1_untried cX1_untried 6 (some .int), Cond.fieldLink RX1 39 "WetSuitPedalsShoes$Athlete" "able" "[I", Cond.methodLink RX1 44 yX1_isBehindRide, Cond.instanceMethod yX1_isBehindRide]
def wsX11_at_r4 : List Cond := [Cond.selects RX1 yX1_isBehindRide yX1_isBehindRide, Cond.code yX1_isBehindRide cX1_isBehindRide 2 (some .boolean), Cond.methodLink RX1 47 yX4_isRide, Cond.static yX4_isRide, Cond.initialized RX4, Cond.code yX4_isRide cX4_isRide 1 (some .boolean), Cond.methodLink RX10 59 yX4_secondsTrying, Cond.static yX4_secondsTrying, Cond.code yX4_secondsTrying cX4_secondsTrying 3 (some .int), Cond.methodLink RX10 71 yX4_legsBehind, Cond.static yX4_legsBehind, Cond.code yX4_legsBehind cX4_legsBehind 5 (some .int), Cond.methodLink RX4 15 Lib.Math.max.name, Cond.static Lib.Math.max.name, Cond.code Lib.Math.max.name Lib.Math.max.code 2 (some .int), Cond.methodLink RX4 21 Lib.Math.min.name, Cond.methodLink RX4 11 yX4_takes, Cond.static yX4_takes, Cond.code yX4_takes cX4_takes 1 (some .int), Cond.methodLink RX11 161 yX10_sectionAt, Cond.instanceMethod yX10_sectionAt, Cond.selects RX10 yX10_sectionAt yX10_sectionAt, Cond.code yX10_sectionAt cX10_sectionAt 3 (some .int)]
def wsX11_at : List Cond := .code yX11_at cX11_at 3 (some .int) :: ((wsX11_at_r1 ++ (wsX11_at_r2 ++ (wsX11_at_r3 ++ wsX11_at_r4))) ++ wsX110 ++ wsX30 ++ wsX100 ++ wsX10 ++ wsX00)
def wsX11_overtakes_r1 : List Cond := [Cond.fieldLink RX11 10 "WetSuitPedalsShoes" "field" "LWetSuitPedalsShoes$Field;", Cond.fieldLink RX11 48 "WetSuitPedalsShoes" "rival" "LWetSuitPedalsShoes$Trial;", Cond.fieldLink RX11 93 "WetSuitPedalsShoes$Field" "course" "LWetSuitPedalsShoes$Course;", Cond.fieldLink RX11 118 "WetSuitPedalsShoes$Field" "athletes" "[LWetSuitPedalsShoes$Athlete;", Cond.fieldLink RX11 44 "WetSuitPedalsShoes" "trial" "LWetSuitPedalsShoes$Trial;", Cond.methodLink RX11 117 yX3_has, Cond.instanceMethod yX3_has, Cond.selects RX3 yX3_has yX3_has, Cond.initialized RX3, Cond.code yX3_has cX3_has 2 (some .boolean), Cond.fieldLink RX3 24 "WetSuitPedalsShoes$Field" "many" "I", Cond.methodLink RX11 72 yX11_refuse, Cond.instanceMethod yX11_refuse, Cond.selects RX11 yX11_refuse yX11_refuse, Cond.initialized RX11, Cond.code yX11_refuse cX11_refuse 3 (some .int), Cond.fieldLink RX11 37 "WetSuitPedalsShoes" "refusals" "[I", Cond.methodLink RX11 142 yX11_runPlan, Cond.instanceMethod yX11_runPlan, Cond.selects RX11 yX11_runPlan yX11_runPlan, Cond.code yX11_runPlan cX11_runPlan 2 (some .int), Cond.methodLink RX11 164 yX10_load, Cond.instanceMethod yX10_load, Cond.selects RX10 yX10_load yX10_load]
def wsX11_overtakes_r2 : List Cond := [Cond.initialized RX10, Cond.code yX10_load cX10_load 3 none, Cond.fieldLink RX10 12 "WetSuitPedalsShoes$Trial" "course" "LWetSuitPedalsShoes$Course;", Cond.fieldLink RX10 21 "WetSuitPedalsShoes$Trial" "who" "LWetSuitPedalsShoes$Athlete;", Cond.fieldLink RX10 25 "WetSuitPedalsShoes$Trial" "drinkBehind" "I", Cond.methodLink RX10 39 yX1_become, Cond.instanceMethod yX1_become, Cond.selects RX1 yX1_become yX1_become, Cond.initialized RX1, Cond.code yX1_become cX1_become 2 none, Cond.fieldLink RX1 9 "WetSuitPedalsShoes$Course" "many" "I", Cond.fieldLink RX1 15 "WetSuitPedalsShoes$Course" "kind" "[I", Cond.methodLink RX1 25 arraycopyName, Cond.native arraycopyName, Cond.static arraycopyName, Cond.initialized "java/lang/System", Cond.fieldLink RX1 19 "WetSuitPedalsShoes$Course" "figure" "[I", Cond.fieldLink RX1 22 "WetSuitPedalsShoes$Course" "length" "[I", Cond.methodLink RX10 43 yX0_become, Cond.instanceMethod yX0_become, Cond.selects RX0 yX0_become yX0_become, Cond.initialized RX0, Cond.code yX0_become cX0_become 2 none, Cond.fieldLink RX0 9 "WetSuitPedalsShoes$Athlete" "able" "[I"]
def wsX11_overtakes_r3 : List Cond := [Cond.methodLink RX0 18 arraycopyName, Cond.fieldLink RX0 15 "WetSuitPedalsShoes$Athlete" "tries" "[I", Cond.methodLink RX11 168 yX10_run, Cond.instanceMethod yX10_run, Cond.selects RX10 yX10_run yX10_run, Cond.code yX10_run cX10_run 5 (some .int), Cond.fieldLink RX10 46 "WetSuitPedalsShoes$Athlete" "able" "[I", Cond.fieldLink RX10 49 "WetSuitPedalsShoes$Course" "many" "I", Cond.fieldLink RX10 52 "WetSuitPedalsShoes$Athlete" "tries" "[I", Cond.fieldLink RX10 29 "WetSuitPedalsShoes$Trial" "seconds" "[I", Cond.fieldLink RX10 65 "WetSuitPedalsShoes$Course" "kind" "[I", Cond.fieldLink RX10 68 "WetSuitPedalsShoes$Course" "length" "[I", Cond.methodLink RX10 75 Lib.Math.min.name, Cond.static Lib.Math.min.name, Cond.initialized "java/lang/Math", Cond.code Lib.Math.min.name Lib.Math.min.code 2 (some .int), Cond.fieldLink RX10 33 "WetSuitPedalsShoes$Trial" "legs" "[I", Cond.fieldLink RX10 36 "WetSuitPedalsShoes$Trial" "all" "[I", Cond.methodLink RX10 55 yX1_untried, Cond.instanceMethod yX1_untried, Cond.selects RX1 yX1_untried yX1_untried, Cond.code yX1_untried cX1_untried 6 (some .int), Cond.fieldLink RX1 39 "WetSuitPedalsShoes$Athlete" "able" "[I", Cond.methodLink RX1 44 yX1_isBehindRide]
def wsX11_overtakes_r4 : List Cond := [Cond.instanceMethod yX1_isBehindRide, Cond.selects RX1 yX1_isBehindRide yX1_isBehindRide, Cond.code yX1_isBehindRide cX1_isBehindRide 2 (some .boolean), Cond.methodLink RX1 47 yX4_isRide, Cond.static yX4_isRide, Cond.initialized RX4, Cond.code yX4_isRide cX4_isRide 1 (some .boolean), Cond.methodLink RX10 59 yX4_secondsTrying, Cond.static yX4_secondsTrying, Cond.code yX4_secondsTrying cX4_secondsTrying 3 (some .int), Cond.methodLink RX10 71 yX4_legsBehind, Cond.static yX4_legsBehind, Cond.code yX4_legsBehind cX4_legsBehind 5 (some .int), Cond.methodLink RX4 15 Lib.Math.max.name, Cond.static Lib.Math.max.name, Cond.code Lib.Math.max.name Lib.Math.max.code 2 (some .int), Cond.methodLink RX4 21 Lib.Math.min.name, Cond.methodLink RX4 11 yX4_takes, Cond.static yX4_takes, Cond.code yX4_takes cX4_takes 1 (some .int), Cond.methodLink RX11 171 yX10_howOftenPast, Cond.instanceMethod yX10_howOftenPast, Cond.selects RX10 yX10_howOftenPast yX10_howOftenPast, Cond.code yX10_howOftenPast cX10_howOftenPast 4 (some .int)]
def wsX11_overtakes_r5 : List Cond := [Cond.methodLink RX10 92 yX10_isPastIn, Cond.instanceMethod yX10_isPastIn, Cond.selects RX10 yX10_isPastIn yX10_isPastIn, Cond.code yX10_isPastIn cX10_isPastIn 3 (some .boolean), Cond.methodLink RX11 175 yX10_firstPast, Cond.instanceMethod yX10_firstPast, Cond.selects RX10 yX10_firstPast yX10_firstPast, Cond.code yX10_firstPast cX10_firstPast 3 (some .int)]
def wsX11_overtakes : List Cond := .code yX11_overtakes cX11_overtakes 4 (some .int) :: ((wsX11_overtakes_r1 ++ (wsX11_overtakes_r2 ++ (wsX11_overtakes_r3 ++ (wsX11_overtakes_r4 ++ wsX11_overtakes_r5)))) ++ wsX110 ++ wsX30 ++ wsX100 ++ wsX10 ++ wsX00)
def wsX11_bestPlan_r1 : List Cond := [Cond.fieldLink RX11 10 "WetSuitPedalsShoes" "field" "LWetSuitPedalsShoes$Field;", Cond.fieldLink RX11 93 "WetSuitPedalsShoes$Field" "course" "LWetSuitPedalsShoes$Course;", Cond.fieldLink RX11 54 "WetSuitPedalsShoes" "planner" "LWetSuitPedalsShoes$Planner;", Cond.fieldLink RX11 118 "WetSuitPedalsShoes$Field" "athletes" "[LWetSuitPedalsShoes$Athlete;", Cond.methodLink RX11 117 yX3_has, Cond.instanceMethod yX3_has, Cond.selects RX3 yX3_has yX3_has, Cond.initialized RX3, Cond.code yX3_has cX3_has 2 (some .boolean), Cond.fieldLink RX3 24 "WetSuitPedalsShoes$Field" "many" "I", Cond.methodLink RX11 97 yX1_has, Cond.instanceMethod yX1_has, Cond.selects RX1 yX1_has yX1_has, Cond.initialized RX1, Cond.code yX1_has cX1_has 2 (some .boolean), Cond.fieldLink RX1 9 "WetSuitPedalsShoes$Course" "many" "I", Cond.methodLink RX11 72 yX11_refuse, Cond.instanceMethod yX11_refuse, Cond.selects RX11 yX11_refuse yX11_refuse, Cond.initialized RX11, Cond.code yX11_refuse cX11_refuse 3 (some .int), Cond.fieldLink RX11 37 "WetSuitPedalsShoes" "refusals" "[I", Cond.methodLink RX11 178 yX7_look, Cond.instanceMethod yX7_look]
def wsX11_bestPlan_r2 : List Cond := [Cond.selects RX7 yX7_look yX7_look, Cond.initialized RX7, Cond.code yX7_look cX7_look 4 none, Cond.fieldLink RX7 39 "WetSuitPedalsShoes$Course" "many" "I", Cond.fieldLink RX7 9 "WetSuitPedalsShoes$Planner" "many" "I", Cond.fieldLink RX7 42 "WetSuitPedalsShoes$Athlete" "able" "[I", Cond.fieldLink RX7 15 "WetSuitPedalsShoes$Planner" "legsAtStart" "I", Cond.fieldLink RX7 18 "WetSuitPedalsShoes$Planner" "kind" "[I", Cond.fieldLink RX7 47 "WetSuitPedalsShoes$Course" "kind" "[I", Cond.fieldLink RX7 22 "WetSuitPedalsShoes$Planner" "length" "[I", Cond.fieldLink RX7 48 "WetSuitPedalsShoes$Course" "length" "[I", Cond.fieldLink RX7 25 "WetSuitPedalsShoes$Planner" "untried" "[I", Cond.methodLink RX7 49 yX1_untried, Cond.instanceMethod yX1_untried, Cond.selects RX1 yX1_untried yX1_untried, Cond.code yX1_untried cX1_untried 6 (some .int), Cond.fieldLink RX1 22 "WetSuitPedalsShoes$Course" "length" "[I", Cond.fieldLink RX1 19 "WetSuitPedalsShoes$Course" "figure" "[I", Cond.fieldLink RX1 15 "WetSuitPedalsShoes$Course" "kind" "[I", Cond.fieldLink RX1 39 "WetSuitPedalsShoes$Athlete" "able" "[I", Cond.methodLink RX1 44 yX1_isBehindRide, Cond.instanceMethod yX1_isBehindRide, Cond.selects RX1 yX1_isBehindRide yX1_isBehindRide, Cond.code yX1_isBehindRide cX1_isBehindRide 2 (some .boolean)]
def wsX11_bestPlan_r3 : List Cond := [Cond.methodLink RX1 47 yX4_isRide, Cond.static yX4_isRide, Cond.initialized RX4, Cond.code yX4_isRide cX4_isRide 1 (some .boolean), Cond.methodLink RX11 181 yX7_leastFinish, Cond.instanceMethod yX7_leastFinish, Cond.selects RX7 yX7_leastFinish yX7_leastFinish, Cond.code yX7_leastFinish cX7_leastFinish 3 (some .int), Cond.fieldLink RX7 30 "WetSuitPedalsShoes$Planner" "toCome" "[[I", Cond.methodLink RX7 65 yX7_easiestBest, Cond.instanceMethod yX7_easiestBest, Cond.selects RX7 yX7_easiestBest yX7_easiestBest, Cond.code yX7_easiestBest cX7_easiestBest 5 (some .int), Cond.methodLink RX7 62 yX7_secondsFrom, Cond.instanceMethod yX7_secondsFrom, Cond.selects RX7 yX7_secondsFrom yX7_secondsFrom, Cond.code yX7_secondsFrom cX7_secondsFrom 5 (some .int), Cond.methodLink RX7 52 yX4_legsBehind, Cond.static yX4_legsBehind, Cond.code yX4_legsBehind cX4_legsBehind 5 (some .int), Cond.methodLink RX4 15 Lib.Math.max.name, Cond.static Lib.Math.max.name, Cond.initialized "java/lang/Math", Cond.code Lib.Math.max.name Lib.Math.max.code 2 (some .int)]
def wsX11_bestPlan_r4 : List Cond := [Cond.methodLink RX4 21 Lib.Math.min.name, Cond.static Lib.Math.min.name, Cond.code Lib.Math.min.name Lib.Math.min.code 2 (some .int), Cond.methodLink RX4 11 yX4_takes, Cond.static yX4_takes, Cond.code yX4_takes cX4_takes 1 (some .int), Cond.methodLink RX7 58 yX4_secondsTrying, Cond.static yX4_secondsTrying, Cond.code yX4_secondsTrying cX4_secondsTrying 3 (some .int), Cond.methodLink RX11 184 yX7_bestTries, Cond.instanceMethod yX7_bestTries, Cond.selects RX7 yX7_bestTries yX7_bestTries, Cond.code yX7_bestTries cX7_bestTries 4 (some .int), Cond.methodLink RX7 69 yX7_leastFinish]
def wsX11_bestPlan : List Cond := .code yX11_bestPlan cX11_bestPlan 3 (some .int) :: ((wsX11_bestPlan_r1 ++ (wsX11_bestPlan_r2 ++ (wsX11_bestPlan_r3 ++ wsX11_bestPlan_r4))) ++ wsX110 ++ wsX30 ++ wsX10 ++ wsX70 ++ wsX00)
def wsX11_hardest_r1 : List Cond := [Cond.fieldLink RX11 10 "WetSuitPedalsShoes" "field" "LWetSuitPedalsShoes$Field;", Cond.fieldLink RX11 44 "WetSuitPedalsShoes" "trial" "LWetSuitPedalsShoes$Trial;", Cond.fieldLink RX11 93 "WetSuitPedalsShoes$Field" "course" "LWetSuitPedalsShoes$Course;", Cond.fieldLink RX11 118 "WetSuitPedalsShoes$Field" "athletes" "[LWetSuitPedalsShoes$Athlete;", Cond.methodLink RX11 117 yX3_has, Cond.instanceMethod yX3_has, Cond.selects RX3 yX3_has yX3_has, Cond.initialized RX3, Cond.code yX3_has cX3_has 2 (some .boolean), Cond.fieldLink RX3 24 "WetSuitPedalsShoes$Field" "many" "I", Cond.methodLink RX11 72 yX11_refuse, Cond.instanceMethod yX11_refuse, Cond.selects RX11 yX11_refuse yX11_refuse, Cond.initialized RX11, Cond.code yX11_refuse cX11_refuse 3 (some .int), Cond.fieldLink RX11 37 "WetSuitPedalsShoes" "refusals" "[I", Cond.methodLink RX11 164 yX10_load, Cond.instanceMethod yX10_load, Cond.selects RX10 yX10_load yX10_load, Cond.initialized RX10, Cond.code yX10_load cX10_load 3 none, Cond.fieldLink RX10 12 "WetSuitPedalsShoes$Trial" "course" "LWetSuitPedalsShoes$Course;", Cond.fieldLink RX10 21 "WetSuitPedalsShoes$Trial" "who" "LWetSuitPedalsShoes$Athlete;", Cond.fieldLink RX10 25 "WetSuitPedalsShoes$Trial" "drinkBehind" "I"]
def wsX11_hardest_r2 : List Cond := [Cond.methodLink RX10 39 yX1_become, Cond.instanceMethod yX1_become, Cond.selects RX1 yX1_become yX1_become, Cond.initialized RX1, Cond.code yX1_become cX1_become 2 none, Cond.fieldLink RX1 9 "WetSuitPedalsShoes$Course" "many" "I", Cond.fieldLink RX1 15 "WetSuitPedalsShoes$Course" "kind" "[I", Cond.methodLink RX1 25 arraycopyName, Cond.native arraycopyName, Cond.static arraycopyName, Cond.initialized "java/lang/System", Cond.fieldLink RX1 19 "WetSuitPedalsShoes$Course" "figure" "[I", Cond.fieldLink RX1 22 "WetSuitPedalsShoes$Course" "length" "[I", Cond.methodLink RX10 43 yX0_become, Cond.instanceMethod yX0_become, Cond.selects RX0 yX0_become yX0_become, Cond.initialized RX0, Cond.code yX0_become cX0_become 2 none, Cond.fieldLink RX0 9 "WetSuitPedalsShoes$Athlete" "able" "[I", Cond.methodLink RX0 18 arraycopyName, Cond.fieldLink RX0 15 "WetSuitPedalsShoes$Athlete" "tries" "[I", Cond.methodLink RX11 187 yX10_rideAt, Cond.instanceMethod yX10_rideAt, Cond.selects RX10 yX10_rideAt yX10_rideAt]
def wsX11_hardest_r3 : List Cond := [Cond.code yX10_rideAt cX10_rideAt 3 none, Cond.fieldLink RX10 49 "WetSuitPedalsShoes$Course" "many" "I", Cond.fieldLink RX10 65 "WetSuitPedalsShoes$Course" "kind" "[I", Cond.fieldLink RX10 52 "WetSuitPedalsShoes$Athlete" "tries" "[I", Cond.methodLink RX10 81 yX4_isRide, Cond.static yX4_isRide, Cond.initialized RX4, Cond.code yX4_isRide cX4_isRide 1 (some .boolean), Cond.methodLink RX11 168 yX10_run, Cond.instanceMethod yX10_run, Cond.selects RX10 yX10_run yX10_run, Cond.code yX10_run cX10_run 5 (some .int), Cond.fieldLink RX10 46 "WetSuitPedalsShoes$Athlete" "able" "[I", Cond.fieldLink RX10 29 "WetSuitPedalsShoes$Trial" "seconds" "[I", Cond.fieldLink RX10 68 "WetSuitPedalsShoes$Course" "length" "[I", Cond.methodLink RX10 75 Lib.Math.min.name, Cond.static Lib.Math.min.name, Cond.initialized "java/lang/Math", Cond.code Lib.Math.min.name Lib.Math.min.code 2 (some .int), Cond.fieldLink RX10 33 "WetSuitPedalsShoes$Trial" "legs" "[I", Cond.fieldLink RX10 36 "WetSuitPedalsShoes$Trial" "all" "[I", Cond.methodLink RX10 55 yX1_untried, Cond.instanceMethod yX1_untried, Cond.selects RX1 yX1_untried yX1_untried]
def wsX11_hardest_r4 : List Cond := [Cond.code yX1_untried cX1_untried 6 (some .int), Cond.fieldLink RX1 39 "WetSuitPedalsShoes$Athlete" "able" "[I", Cond.methodLink RX1 44 yX1_isBehindRide, Cond.instanceMethod yX1_isBehindRide, Cond.selects RX1 yX1_isBehindRide yX1_isBehindRide, Cond.code yX1_isBehindRide cX1_isBehindRide 2 (some .boolean), Cond.methodLink RX1 47 yX4_isRide, Cond.methodLink RX10 59 yX4_secondsTrying, Cond.static yX4_secondsTrying, Cond.code yX4_secondsTrying cX4_secondsTrying 3 (some .int), Cond.methodLink RX10 71 yX4_legsBehind, Cond.static yX4_legsBehind, Cond.code yX4_legsBehind cX4_legsBehind 5 (some .int), Cond.methodLink RX4 15 Lib.Math.max.name, Cond.static Lib.Math.max.name, Cond.code Lib.Math.max.name Lib.Math.max.code 2 (some .int), Cond.methodLink RX4 21 Lib.Math.min.name, Cond.methodLink RX4 11 yX4_takes, Cond.static yX4_takes, Cond.code yX4_takes cX4_takes 1 (some .int), Cond.methodLink RX11 191 yX10_legsAtFinish, Cond.instanceMethod yX10_legsAtFinish, Cond.selects RX10 yX10_legsAtFinish yX10_legsAtFinish, Cond.code yX10_legsAtFinish cX10_legsAtFinish 1 (some .int)]
def wsX11_hardest : List Cond := .code yX11_hardest cX11_hardest 3 (some .int) :: ((wsX11_hardest_r1 ++ (wsX11_hardest_r2 ++ (wsX11_hardest_r3 ++ wsX11_hardest_r4))) ++ wsX110 ++ wsX30 ++ wsX100 ++ wsX10 ++ wsX00)
def wsX11_leastTries_r1 : List Cond := [Cond.fieldLink RX11 10 "WetSuitPedalsShoes" "field" "LWetSuitPedalsShoes$Field;", Cond.fieldLink RX11 54 "WetSuitPedalsShoes" "planner" "LWetSuitPedalsShoes$Planner;", Cond.fieldLink RX11 93 "WetSuitPedalsShoes$Field" "course" "LWetSuitPedalsShoes$Course;", Cond.fieldLink RX11 118 "WetSuitPedalsShoes$Field" "athletes" "[LWetSuitPedalsShoes$Athlete;", Cond.methodLink RX11 117 yX3_has, Cond.instanceMethod yX3_has, Cond.selects RX3 yX3_has yX3_has, Cond.initialized RX3, Cond.code yX3_has cX3_has 2 (some .boolean), Cond.fieldLink RX3 24 "WetSuitPedalsShoes$Field" "many" "I", Cond.methodLink RX11 72 yX11_refuse, Cond.instanceMethod yX11_refuse, Cond.selects RX11 yX11_refuse yX11_refuse, Cond.initialized RX11, Cond.code yX11_refuse cX11_refuse 3 (some .int), Cond.fieldLink RX11 37 "WetSuitPedalsShoes" "refusals" "[I", Cond.methodLink RX11 178 yX7_look, Cond.instanceMethod yX7_look, Cond.selects RX7 yX7_look yX7_look, Cond.initialized RX7, Cond.code yX7_look cX7_look 4 none, Cond.fieldLink RX7 39 "WetSuitPedalsShoes$Course" "many" "I", Cond.fieldLink RX7 9 "WetSuitPedalsShoes$Planner" "many" "I", Cond.fieldLink RX7 42 "WetSuitPedalsShoes$Athlete" "able" "[I"]
def wsX11_leastTries_r2 : List Cond := [Cond.fieldLink RX7 15 "WetSuitPedalsShoes$Planner" "legsAtStart" "I", Cond.fieldLink RX7 18 "WetSuitPedalsShoes$Planner" "kind" "[I", Cond.fieldLink RX7 47 "WetSuitPedalsShoes$Course" "kind" "[I", Cond.fieldLink RX7 22 "WetSuitPedalsShoes$Planner" "length" "[I", Cond.fieldLink RX7 48 "WetSuitPedalsShoes$Course" "length" "[I", Cond.fieldLink RX7 25 "WetSuitPedalsShoes$Planner" "untried" "[I", Cond.methodLink RX7 49 yX1_untried, Cond.instanceMethod yX1_untried, Cond.selects RX1 yX1_untried yX1_untried, Cond.initialized RX1, Cond.code yX1_untried cX1_untried 6 (some .int), Cond.fieldLink RX1 22 "WetSuitPedalsShoes$Course" "length" "[I", Cond.fieldLink RX1 19 "WetSuitPedalsShoes$Course" "figure" "[I", Cond.fieldLink RX1 15 "WetSuitPedalsShoes$Course" "kind" "[I", Cond.fieldLink RX1 39 "WetSuitPedalsShoes$Athlete" "able" "[I", Cond.methodLink RX1 44 yX1_isBehindRide, Cond.instanceMethod yX1_isBehindRide, Cond.selects RX1 yX1_isBehindRide yX1_isBehindRide, Cond.code yX1_isBehindRide cX1_isBehindRide 2 (some .boolean), Cond.methodLink RX1 47 yX4_isRide, Cond.static yX4_isRide, Cond.initialized RX4, Cond.code yX4_isRide cX4_isRide 1 (some .boolean), Cond.methodLink RX11 194 yX7_fewestTries]
def wsX11_leastTries_r3 : List Cond := [Cond.instanceMethod yX7_fewestTries, Cond.selects RX7 yX7_fewestTries yX7_fewestTries, Cond.code yX7_fewestTries cX7_fewestTries 4 (some .int), Cond.fieldLink RX7 36 "WetSuitPedalsShoes$Planner" "next" "[I", Cond.methodLink RX7 73 yX7_emptyNext, Cond.instanceMethod yX7_emptyNext, Cond.selects RX7 yX7_emptyNext yX7_emptyNext, Cond.code yX7_emptyNext cX7_emptyNext 2 none, Cond.constant RX7 83 (1000000), Cond.methodLink RX7 76 yX7_takeNext, Cond.instanceMethod yX7_takeNext, Cond.selects RX7 yX7_takeNext yX7_takeNext, Cond.code yX7_takeNext cX7_takeNext 2 none, Cond.fieldLink RX7 33 "WetSuitPedalsShoes$Planner" "reached" "[I", Cond.methodLink RX7 79 yX7_goOnFrom, Cond.instanceMethod yX7_goOnFrom, Cond.selects RX7 yX7_goOnFrom yX7_goOnFrom, Cond.code yX7_goOnFrom cX7_goOnFrom 6 none, Cond.methodLink RX7 84 yX7_goOnFromLegs, Cond.instanceMethod yX7_goOnFromLegs, Cond.selects RX7 yX7_goOnFromLegs yX7_goOnFromLegs, Cond.code yX7_goOnFromLegs cX7_goOnFromLegs 9 none, Cond.methodLink RX7 88 Lib.Math.min.name, Cond.static Lib.Math.min.name]
def wsX11_leastTries_r4 : List Cond := [Cond.initialized "java/lang/Math", Cond.code Lib.Math.min.name Lib.Math.min.code 2 (some .int), Cond.methodLink RX7 52 yX4_legsBehind, Cond.static yX4_legsBehind, Cond.code yX4_legsBehind cX4_legsBehind 5 (some .int), Cond.methodLink RX4 15 Lib.Math.max.name, Cond.static Lib.Math.max.name, Cond.code Lib.Math.max.name Lib.Math.max.code 2 (some .int), Cond.methodLink RX4 21 Lib.Math.min.name, Cond.methodLink RX4 11 yX4_takes, Cond.static yX4_takes, Cond.code yX4_takes cX4_takes 1 (some .int), Cond.methodLink RX7 58 yX4_secondsTrying, Cond.static yX4_secondsTrying, Cond.code yX4_secondsTrying cX4_secondsTrying 3 (some .int)]
def wsX11_leastTries : List Cond := .code yX11_leastTries cX11_leastTries 3 (some .int) :: ((wsX11_leastTries_r1 ++ (wsX11_leastTries_r2 ++ (wsX11_leastTries_r3 ++ wsX11_leastTries_r4))) ++ wsX110 ++ wsX30 ++ wsX10 ++ wsX70 ++ wsX00)
def wsX11_drink_r1 : List Cond := [Cond.fieldLink RX11 10 "WetSuitPedalsShoes" "field" "LWetSuitPedalsShoes$Field;", Cond.fieldLink RX11 93 "WetSuitPedalsShoes$Field" "course" "LWetSuitPedalsShoes$Course;", Cond.fieldLink RX11 138 "WetSuitPedalsShoes$Course" "many" "I", Cond.fieldLink RX11 44 "WetSuitPedalsShoes" "trial" "LWetSuitPedalsShoes$Trial;", Cond.fieldLink RX11 197 "WetSuitPedalsShoes$Trial" "drinkBehind" "I", Cond.methodLink RX11 117 yX3_has, Cond.instanceMethod yX3_has, Cond.selects RX3 yX3_has yX3_has, Cond.initialized RX3, Cond.code yX3_has cX3_has 2 (some .boolean), Cond.fieldLink RX3 24 "WetSuitPedalsShoes$Field" "many" "I", Cond.methodLink RX11 72 yX11_refuse, Cond.instanceMethod yX11_refuse, Cond.selects RX11 yX11_refuse yX11_refuse, Cond.initialized RX11, Cond.code yX11_refuse cX11_refuse 3 (some .int), Cond.fieldLink RX11 37 "WetSuitPedalsShoes" "refusals" "[I", Cond.methodLink RX11 142 yX11_runPlan, Cond.instanceMethod yX11_runPlan, Cond.selects RX11 yX11_runPlan yX11_runPlan, Cond.code yX11_runPlan cX11_runPlan 2 (some .int), Cond.fieldLink RX11 118 "WetSuitPedalsShoes$Field" "athletes" "[LWetSuitPedalsShoes$Athlete;", Cond.methodLink RX11 164 yX10_load, Cond.instanceMethod yX10_load]
def wsX11_drink_r2 : List Cond := [Cond.selects RX10 yX10_load yX10_load, Cond.initialized RX10, Cond.code yX10_load cX10_load 3 none, Cond.fieldLink RX10 12 "WetSuitPedalsShoes$Trial" "course" "LWetSuitPedalsShoes$Course;", Cond.fieldLink RX10 21 "WetSuitPedalsShoes$Trial" "who" "LWetSuitPedalsShoes$Athlete;", Cond.fieldLink RX10 25 "WetSuitPedalsShoes$Trial" "drinkBehind" "I", Cond.methodLink RX10 39 yX1_become, Cond.instanceMethod yX1_become, Cond.selects RX1 yX1_become yX1_become, Cond.initialized RX1, Cond.code yX1_become cX1_become 2 none, Cond.fieldLink RX1 9 "WetSuitPedalsShoes$Course" "many" "I", Cond.fieldLink RX1 15 "WetSuitPedalsShoes$Course" "kind" "[I", Cond.methodLink RX1 25 arraycopyName, Cond.native arraycopyName, Cond.static arraycopyName, Cond.initialized "java/lang/System", Cond.fieldLink RX1 19 "WetSuitPedalsShoes$Course" "figure" "[I", Cond.fieldLink RX1 22 "WetSuitPedalsShoes$Course" "length" "[I", Cond.methodLink RX10 43 yX0_become, Cond.instanceMethod yX0_become, Cond.selects RX0 yX0_become yX0_become, Cond.initialized RX0, Cond.code yX0_become cX0_become 2 none]
def wsX11_drink_r3 : List Cond := [Cond.fieldLink RX0 9 "WetSuitPedalsShoes$Athlete" "able" "[I", Cond.methodLink RX0 18 arraycopyName, Cond.fieldLink RX0 15 "WetSuitPedalsShoes$Athlete" "tries" "[I", Cond.methodLink RX11 168 yX10_run, Cond.instanceMethod yX10_run, Cond.selects RX10 yX10_run yX10_run, Cond.code yX10_run cX10_run 5 (some .int), Cond.fieldLink RX10 46 "WetSuitPedalsShoes$Athlete" "able" "[I", Cond.fieldLink RX10 49 "WetSuitPedalsShoes$Course" "many" "I", Cond.fieldLink RX10 52 "WetSuitPedalsShoes$Athlete" "tries" "[I", Cond.fieldLink RX10 29 "WetSuitPedalsShoes$Trial" "seconds" "[I", Cond.fieldLink RX10 65 "WetSuitPedalsShoes$Course" "kind" "[I", Cond.fieldLink RX10 68 "WetSuitPedalsShoes$Course" "length" "[I", Cond.methodLink RX10 75 Lib.Math.min.name, Cond.static Lib.Math.min.name, Cond.initialized "java/lang/Math", Cond.code Lib.Math.min.name Lib.Math.min.code 2 (some .int), Cond.fieldLink RX10 33 "WetSuitPedalsShoes$Trial" "legs" "[I", Cond.fieldLink RX10 36 "WetSuitPedalsShoes$Trial" "all" "[I", Cond.methodLink RX10 55 yX1_untried, Cond.instanceMethod yX1_untried, Cond.selects RX1 yX1_untried yX1_untried, Cond.code yX1_untried cX1_untried 6 (some .int), Cond.fieldLink RX1 39 "WetSuitPedalsShoes$Athlete" "able" "[I"]
def wsX11_drink_r4 : List Cond := [Cond.methodLink RX1 44 yX1_isBehindRide, Cond.instanceMethod yX1_isBehindRide, Cond.selects RX1 yX1_isBehindRide yX1_isBehindRide, Cond.code yX1_isBehindRide cX1_isBehindRide 2 (some .boolean), Cond.methodLink RX1 47 yX4_isRide, Cond.static yX4_isRide, Cond.initialized RX4, Cond.code yX4_isRide cX4_isRide 1 (some .boolean), Cond.methodLink RX10 59 yX4_secondsTrying, Cond.static yX4_secondsTrying, Cond.code yX4_secondsTrying cX4_secondsTrying 3 (some .int), Cond.methodLink RX10 71 yX4_legsBehind, Cond.static yX4_legsBehind, Cond.code yX4_legsBehind cX4_legsBehind 5 (some .int), Cond.methodLink RX4 15 Lib.Math.max.name, Cond.static Lib.Math.max.name, Cond.code Lib.Math.max.name Lib.Math.max.code 2 (some .int), Cond.methodLink RX4 21 Lib.Math.min.name, Cond.methodLink RX4 11 yX4_takes, Cond.static yX4_takes, Cond.code yX4_takes cX4_takes 1 (some .int)]
def wsX11_drink : List Cond := .code yX11_drink cX11_drink 7 (some .int) :: ((wsX11_drink_r1 ++ (wsX11_drink_r2 ++ (wsX11_drink_r3 ++ wsX11_drink_r4))) ++ wsX110 ++ wsX30 ++ wsX10 ++ wsX100 ++ wsX00)
def wsX11_finishWith_r1 : List Cond := [Cond.fieldLink RX11 44 "WetSuitPedalsShoes" "trial" "LWetSuitPedalsShoes$Trial;", Cond.fieldLink RX11 10 "WetSuitPedalsShoes" "field" "LWetSuitPedalsShoes$Field;", Cond.fieldLink RX11 93 "WetSuitPedalsShoes$Field" "course" "LWetSuitPedalsShoes$Course;", Cond.fieldLink RX11 118 "WetSuitPedalsShoes$Field" "athletes" "[LWetSuitPedalsShoes$Athlete;", Cond.fieldLink RX11 291 "WetSuitPedalsShoes$Trial" "who" "LWetSuitPedalsShoes$Athlete;", Cond.fieldLink RX11 122 "WetSuitPedalsShoes$Athlete" "able" "[I", Cond.methodLink RX11 295 Lib.Math.min.name, Cond.static Lib.Math.min.name, Cond.initialized "java/lang/Math", Cond.code Lib.Math.min.name Lib.Math.min.code 2 (some .int), Cond.methodLink RX11 164 yX10_load, Cond.instanceMethod yX10_load, Cond.selects RX10 yX10_load yX10_load, Cond.initialized RX10, Cond.code yX10_load cX10_load 3 none, Cond.fieldLink RX10 12 "WetSuitPedalsShoes$Trial" "course" "LWetSuitPedalsShoes$Course;", Cond.fieldLink RX10 21 "WetSuitPedalsShoes$Trial" "who" "LWetSuitPedalsShoes$Athlete;", Cond.fieldLink RX10 25 "WetSuitPedalsShoes$Trial" "drinkBehind" "I", Cond.methodLink RX10 39 yX1_become, Cond.instanceMethod yX1_become, Cond.selects RX1 yX1_become yX1_become, Cond.initialized RX1, Cond.code yX1_become cX1_become 2 none, Cond.fieldLink RX1 9 "WetSuitPedalsShoes$Course" "many" "I"]
def wsX11_finishWith_r2 : List Cond := [Cond.fieldLink RX1 15 "WetSuitPedalsShoes$Course" "kind" "[I", Cond.methodLink RX1 25 arraycopyName, Cond.native arraycopyName, Cond.static arraycopyName, Cond.initialized "java/lang/System", Cond.fieldLink RX1 19 "WetSuitPedalsShoes$Course" "figure" "[I", Cond.fieldLink RX1 22 "WetSuitPedalsShoes$Course" "length" "[I", Cond.methodLink RX10 43 yX0_become, Cond.instanceMethod yX0_become, Cond.selects RX0 yX0_become yX0_become, Cond.initialized RX0, Cond.code yX0_become cX0_become 2 none, Cond.fieldLink RX0 9 "WetSuitPedalsShoes$Athlete" "able" "[I", Cond.methodLink RX0 18 arraycopyName, Cond.fieldLink RX0 15 "WetSuitPedalsShoes$Athlete" "tries" "[I", Cond.methodLink RX11 168 yX10_run, Cond.instanceMethod yX10_run, Cond.selects RX10 yX10_run yX10_run, Cond.code yX10_run cX10_run 5 (some .int), Cond.fieldLink RX10 46 "WetSuitPedalsShoes$Athlete" "able" "[I", Cond.fieldLink RX10 49 "WetSuitPedalsShoes$Course" "many" "I", Cond.fieldLink RX10 52 "WetSuitPedalsShoes$Athlete" "tries" "[I", Cond.fieldLink RX10 29 "WetSuitPedalsShoes$Trial" "seconds" "[I", Cond.fieldLink RX10 65 "WetSuitPedalsShoes$Course" "kind" "[I"]
def wsX11_finishWith_r3 : List Cond := [Cond.fieldLink RX10 68 "WetSuitPedalsShoes$Course" "length" "[I", Cond.methodLink RX10 75 Lib.Math.min.name, Cond.fieldLink RX10 33 "WetSuitPedalsShoes$Trial" "legs" "[I", Cond.fieldLink RX10 36 "WetSuitPedalsShoes$Trial" "all" "[I", Cond.methodLink RX10 55 yX1_untried, Cond.instanceMethod yX1_untried, Cond.selects RX1 yX1_untried yX1_untried, Cond.code yX1_untried cX1_untried 6 (some .int), Cond.fieldLink RX1 39 "WetSuitPedalsShoes$Athlete" "able" "[I", Cond.methodLink RX1 44 yX1_isBehindRide, Cond.instanceMethod yX1_isBehindRide, Cond.selects RX1 yX1_isBehindRide yX1_isBehindRide, Cond.code yX1_isBehindRide cX1_isBehindRide 2 (some .boolean), Cond.methodLink RX1 47 yX4_isRide, Cond.static yX4_isRide, Cond.initialized RX4, Cond.code yX4_isRide cX4_isRide 1 (some .boolean), Cond.methodLink RX10 59 yX4_secondsTrying, Cond.static yX4_secondsTrying, Cond.code yX4_secondsTrying cX4_secondsTrying 3 (some .int), Cond.methodLink RX10 71 yX4_legsBehind, Cond.static yX4_legsBehind, Cond.code yX4_legsBehind cX4_legsBehind 5 (some .int), Cond.methodLink RX4 15 Lib.Math.max.name]
def wsX11_finishWith_r4 : List Cond := [Cond.static Lib.Math.max.name, Cond.code Lib.Math.max.name Lib.Math.max.code 2 (some .int), Cond.methodLink RX4 21 Lib.Math.min.name, Cond.methodLink RX4 11 yX4_takes, Cond.static yX4_takes, Cond.code yX4_takes cX4_takes 1 (some .int)]
def wsX11_finishWith : List Cond := .code yX11_finishWith cX11_finishWith 4 (some .int) :: ((wsX11_finishWith_r1 ++ (wsX11_finishWith_r2 ++ (wsX11_finishWith_r3 ++ wsX11_finishWith_r4))) ++ wsX110 ++ wsX30 ++ wsX100 ++ wsX00 ++ wsX10)
def wsX11_train_r1 : List Cond := [Cond.fieldLink RX11 10 "WetSuitPedalsShoes" "field" "LWetSuitPedalsShoes$Field;", Cond.constant RX11 200 (1000000000), Cond.methodLink RX11 117 yX3_has, Cond.instanceMethod yX3_has, Cond.selects RX3 yX3_has yX3_has, Cond.initialized RX3, Cond.code yX3_has cX3_has 2 (some .boolean), Cond.fieldLink RX3 24 "WetSuitPedalsShoes$Field" "many" "I", Cond.methodLink RX11 72 yX11_refuse, Cond.instanceMethod yX11_refuse, Cond.selects RX11 yX11_refuse yX11_refuse, Cond.initialized RX11, Cond.code yX11_refuse cX11_refuse 3 (some .int), Cond.fieldLink RX11 37 "WetSuitPedalsShoes" "refusals" "[I", Cond.methodLink RX11 142 yX11_runPlan, Cond.instanceMethod yX11_runPlan, Cond.selects RX11 yX11_runPlan yX11_runPlan, Cond.code yX11_runPlan cX11_runPlan 2 (some .int), Cond.fieldLink RX11 44 "WetSuitPedalsShoes" "trial" "LWetSuitPedalsShoes$Trial;", Cond.fieldLink RX11 93 "WetSuitPedalsShoes$Field" "course" "LWetSuitPedalsShoes$Course;", Cond.fieldLink RX11 118 "WetSuitPedalsShoes$Field" "athletes" "[LWetSuitPedalsShoes$Athlete;", Cond.methodLink RX11 164 yX10_load, Cond.instanceMethod yX10_load, Cond.selects RX10 yX10_load yX10_load]
def wsX11_train_r2 : List Cond := [Cond.initialized RX10, Cond.code yX10_load cX10_load 3 none, Cond.fieldLink RX10 12 "WetSuitPedalsShoes$Trial" "course" "LWetSuitPedalsShoes$Course;", Cond.fieldLink RX10 21 "WetSuitPedalsShoes$Trial" "who" "LWetSuitPedalsShoes$Athlete;", Cond.fieldLink RX10 25 "WetSuitPedalsShoes$Trial" "drinkBehind" "I", Cond.methodLink RX10 39 yX1_become, Cond.instanceMethod yX1_become, Cond.selects RX1 yX1_become yX1_become, Cond.initialized RX1, Cond.code yX1_become cX1_become 2 none, Cond.fieldLink RX1 9 "WetSuitPedalsShoes$Course" "many" "I", Cond.fieldLink RX1 15 "WetSuitPedalsShoes$Course" "kind" "[I", Cond.methodLink RX1 25 arraycopyName, Cond.native arraycopyName, Cond.static arraycopyName, Cond.initialized "java/lang/System", Cond.fieldLink RX1 19 "WetSuitPedalsShoes$Course" "figure" "[I", Cond.fieldLink RX1 22 "WetSuitPedalsShoes$Course" "length" "[I", Cond.methodLink RX10 43 yX0_become, Cond.instanceMethod yX0_become, Cond.selects RX0 yX0_become yX0_become, Cond.initialized RX0, Cond.code yX0_become cX0_become 2 none, Cond.fieldLink RX0 9 "WetSuitPedalsShoes$Athlete" "able" "[I"]
def wsX11_train_r3 : List Cond := [Cond.methodLink RX0 18 arraycopyName, Cond.fieldLink RX0 15 "WetSuitPedalsShoes$Athlete" "tries" "[I", Cond.methodLink RX11 168 yX10_run, Cond.instanceMethod yX10_run, Cond.selects RX10 yX10_run yX10_run, Cond.code yX10_run cX10_run 5 (some .int), Cond.fieldLink RX10 46 "WetSuitPedalsShoes$Athlete" "able" "[I", Cond.fieldLink RX10 49 "WetSuitPedalsShoes$Course" "many" "I", Cond.fieldLink RX10 52 "WetSuitPedalsShoes$Athlete" "tries" "[I", Cond.fieldLink RX10 29 "WetSuitPedalsShoes$Trial" "seconds" "[I", Cond.fieldLink RX10 65 "WetSuitPedalsShoes$Course" "kind" "[I", Cond.fieldLink RX10 68 "WetSuitPedalsShoes$Course" "length" "[I", Cond.methodLink RX10 75 Lib.Math.min.name, Cond.static Lib.Math.min.name, Cond.initialized "java/lang/Math", Cond.code Lib.Math.min.name Lib.Math.min.code 2 (some .int), Cond.fieldLink RX10 33 "WetSuitPedalsShoes$Trial" "legs" "[I", Cond.fieldLink RX10 36 "WetSuitPedalsShoes$Trial" "all" "[I", Cond.methodLink RX10 55 yX1_untried, Cond.instanceMethod yX1_untried, Cond.selects RX1 yX1_untried yX1_untried, Cond.code yX1_untried cX1_untried 6 (some .int), Cond.fieldLink RX1 39 "WetSuitPedalsShoes$Athlete" "able" "[I", Cond.methodLink RX1 44 yX1_isBehindRide]
def wsX11_train_r4 : List Cond := [Cond.instanceMethod yX1_isBehindRide, Cond.selects RX1 yX1_isBehindRide yX1_isBehindRide, Cond.code yX1_isBehindRide cX1_isBehindRide 2 (some .boolean), Cond.methodLink RX1 47 yX4_isRide, Cond.static yX4_isRide, Cond.initialized RX4, Cond.code yX4_isRide cX4_isRide 1 (some .boolean), Cond.methodLink RX10 59 yX4_secondsTrying, Cond.static yX4_secondsTrying, Cond.code yX4_secondsTrying cX4_secondsTrying 3 (some .int), Cond.methodLink RX10 71 yX4_legsBehind, Cond.static yX4_legsBehind, Cond.code yX4_legsBehind cX4_legsBehind 5 (some .int), Cond.methodLink RX4 15 Lib.Math.max.name, Cond.static Lib.Math.max.name, Cond.code Lib.Math.max.name Lib.Math.max.code 2 (some .int), Cond.methodLink RX4 21 Lib.Math.min.name, Cond.methodLink RX4 11 yX4_takes, Cond.static yX4_takes, Cond.code yX4_takes cX4_takes 1 (some .int), Cond.methodLink RX11 201 yX11_finishWith, Cond.instanceMethod yX11_finishWith, Cond.selects RX11 yX11_finishWith yX11_finishWith, Cond.code yX11_finishWith cX11_finishWith 4 (some .int)]
def wsX11_train_r5 : List Cond := [Cond.fieldLink RX11 291 "WetSuitPedalsShoes$Trial" "who" "LWetSuitPedalsShoes$Athlete;", Cond.fieldLink RX11 122 "WetSuitPedalsShoes$Athlete" "able" "[I", Cond.methodLink RX11 295 Lib.Math.min.name]
def wsX11_train : List Cond := .code yX11_train cX11_train 8 (some .int) :: ((wsX11_train_r1 ++ (wsX11_train_r2 ++ (wsX11_train_r3 ++ (wsX11_train_r4 ++ wsX11_train_r5)))) ++ wsX110 ++ wsX30 ++ wsX100 ++ wsX10 ++ wsX00)
def wsX11_weakest_r1 : List Cond := [Cond.fieldLink RX11 10 "WetSuitPedalsShoes" "field" "LWetSuitPedalsShoes$Field;", Cond.fieldLink RX11 44 "WetSuitPedalsShoes" "trial" "LWetSuitPedalsShoes$Trial;", Cond.methodLink RX11 117 yX3_has, Cond.instanceMethod yX3_has, Cond.selects RX3 yX3_has yX3_has, Cond.initialized RX3, Cond.code yX3_has cX3_has 2 (some .boolean), Cond.fieldLink RX3 24 "WetSuitPedalsShoes$Field" "many" "I", Cond.methodLink RX11 72 yX11_refuse, Cond.instanceMethod yX11_refuse, Cond.selects RX11 yX11_refuse yX11_refuse, Cond.initialized RX11, Cond.code yX11_refuse cX11_refuse 3 (some .int), Cond.fieldLink RX11 37 "WetSuitPedalsShoes" "refusals" "[I", Cond.methodLink RX11 142 yX11_runPlan, Cond.instanceMethod yX11_runPlan, Cond.selects RX11 yX11_runPlan yX11_runPlan, Cond.code yX11_runPlan cX11_runPlan 2 (some .int), Cond.fieldLink RX11 93 "WetSuitPedalsShoes$Field" "course" "LWetSuitPedalsShoes$Course;", Cond.fieldLink RX11 118 "WetSuitPedalsShoes$Field" "athletes" "[LWetSuitPedalsShoes$Athlete;", Cond.methodLink RX11 164 yX10_load, Cond.instanceMethod yX10_load, Cond.selects RX10 yX10_load yX10_load, Cond.initialized RX10]
def wsX11_weakest_r2 : List Cond := [Cond.code yX10_load cX10_load 3 none, Cond.fieldLink RX10 12 "WetSuitPedalsShoes$Trial" "course" "LWetSuitPedalsShoes$Course;", Cond.fieldLink RX10 21 "WetSuitPedalsShoes$Trial" "who" "LWetSuitPedalsShoes$Athlete;", Cond.fieldLink RX10 25 "WetSuitPedalsShoes$Trial" "drinkBehind" "I", Cond.methodLink RX10 39 yX1_become, Cond.instanceMethod yX1_become, Cond.selects RX1 yX1_become yX1_become, Cond.initialized RX1, Cond.code yX1_become cX1_become 2 none, Cond.fieldLink RX1 9 "WetSuitPedalsShoes$Course" "many" "I", Cond.fieldLink RX1 15 "WetSuitPedalsShoes$Course" "kind" "[I", Cond.methodLink RX1 25 arraycopyName, Cond.native arraycopyName, Cond.static arraycopyName, Cond.initialized "java/lang/System", Cond.fieldLink RX1 19 "WetSuitPedalsShoes$Course" "figure" "[I", Cond.fieldLink RX1 22 "WetSuitPedalsShoes$Course" "length" "[I", Cond.methodLink RX10 43 yX0_become, Cond.instanceMethod yX0_become, Cond.selects RX0 yX0_become yX0_become, Cond.initialized RX0, Cond.code yX0_become cX0_become 2 none, Cond.fieldLink RX0 9 "WetSuitPedalsShoes$Athlete" "able" "[I", Cond.methodLink RX0 18 arraycopyName]
def wsX11_weakest_r3 : List Cond := [Cond.fieldLink RX0 15 "WetSuitPedalsShoes$Athlete" "tries" "[I", Cond.methodLink RX11 168 yX10_run, Cond.instanceMethod yX10_run, Cond.selects RX10 yX10_run yX10_run, Cond.code yX10_run cX10_run 5 (some .int), Cond.fieldLink RX10 46 "WetSuitPedalsShoes$Athlete" "able" "[I", Cond.fieldLink RX10 49 "WetSuitPedalsShoes$Course" "many" "I", Cond.fieldLink RX10 52 "WetSuitPedalsShoes$Athlete" "tries" "[I", Cond.fieldLink RX10 29 "WetSuitPedalsShoes$Trial" "seconds" "[I", Cond.fieldLink RX10 65 "WetSuitPedalsShoes$Course" "kind" "[I", Cond.fieldLink RX10 68 "WetSuitPedalsShoes$Course" "length" "[I", Cond.methodLink RX10 75 Lib.Math.min.name, Cond.static Lib.Math.min.name, Cond.initialized "java/lang/Math", Cond.code Lib.Math.min.name Lib.Math.min.code 2 (some .int), Cond.fieldLink RX10 33 "WetSuitPedalsShoes$Trial" "legs" "[I", Cond.fieldLink RX10 36 "WetSuitPedalsShoes$Trial" "all" "[I", Cond.methodLink RX10 55 yX1_untried, Cond.instanceMethod yX1_untried, Cond.selects RX1 yX1_untried yX1_untried, Cond.code yX1_untried cX1_untried 6 (some .int), Cond.fieldLink RX1 39 "WetSuitPedalsShoes$Athlete" "able" "[I", Cond.methodLink RX1 44 yX1_isBehindRide, Cond.instanceMethod yX1_isBehindRide]
def wsX11_weakest_r4 : List Cond := [Cond.selects RX1 yX1_isBehindRide yX1_isBehindRide, Cond.code yX1_isBehindRide cX1_isBehindRide 2 (some .boolean), Cond.methodLink RX1 47 yX4_isRide, Cond.static yX4_isRide, Cond.initialized RX4, Cond.code yX4_isRide cX4_isRide 1 (some .boolean), Cond.methodLink RX10 59 yX4_secondsTrying, Cond.static yX4_secondsTrying, Cond.code yX4_secondsTrying cX4_secondsTrying 3 (some .int), Cond.methodLink RX10 71 yX4_legsBehind, Cond.static yX4_legsBehind, Cond.code yX4_legsBehind cX4_legsBehind 5 (some .int), Cond.methodLink RX4 15 Lib.Math.max.name, Cond.static Lib.Math.max.name, Cond.code Lib.Math.max.name Lib.Math.max.code 2 (some .int), Cond.methodLink RX4 21 Lib.Math.min.name, Cond.methodLink RX4 11 yX4_takes, Cond.static yX4_takes, Cond.code yX4_takes cX4_takes 1 (some .int), Cond.methodLink RX11 205 yX10_slowest, Cond.instanceMethod yX10_slowest, Cond.selects RX10 yX10_slowest yX10_slowest, Cond.code yX10_slowest cX10_slowest 3 (some .int)]
def wsX11_weakest : List Cond := .code yX11_weakest cX11_weakest 2 (some .int) :: ((wsX11_weakest_r1 ++ (wsX11_weakest_r2 ++ (wsX11_weakest_r3 ++ wsX11_weakest_r4))) ++ wsX110 ++ wsX30 ++ wsX100 ++ wsX10 ++ wsX00)
def wsX11_meadow_r1 : List Cond := [Cond.fieldLink RX11 10 "WetSuitPedalsShoes" "field" "LWetSuitPedalsShoes$Field;", Cond.fieldLink RX11 44 "WetSuitPedalsShoes" "trial" "LWetSuitPedalsShoes$Trial;", Cond.methodLink RX11 117 yX3_has, Cond.instanceMethod yX3_has, Cond.selects RX3 yX3_has yX3_has, Cond.initialized RX3, Cond.code yX3_has cX3_has 2 (some .boolean), Cond.fieldLink RX3 24 "WetSuitPedalsShoes$Field" "many" "I", Cond.methodLink RX11 72 yX11_refuse, Cond.instanceMethod yX11_refuse, Cond.selects RX11 yX11_refuse yX11_refuse, Cond.initialized RX11, Cond.code yX11_refuse cX11_refuse 3 (some .int), Cond.fieldLink RX11 37 "WetSuitPedalsShoes" "refusals" "[I", Cond.methodLink RX11 142 yX11_runPlan, Cond.instanceMethod yX11_runPlan, Cond.selects RX11 yX11_runPlan yX11_runPlan, Cond.code yX11_runPlan cX11_runPlan 2 (some .int), Cond.fieldLink RX11 93 "WetSuitPedalsShoes$Field" "course" "LWetSuitPedalsShoes$Course;", Cond.fieldLink RX11 118 "WetSuitPedalsShoes$Field" "athletes" "[LWetSuitPedalsShoes$Athlete;", Cond.methodLink RX11 164 yX10_load, Cond.instanceMethod yX10_load, Cond.selects RX10 yX10_load yX10_load, Cond.initialized RX10]
def wsX11_meadow_r2 : List Cond := [Cond.code yX10_load cX10_load 3 none, Cond.fieldLink RX10 12 "WetSuitPedalsShoes$Trial" "course" "LWetSuitPedalsShoes$Course;", Cond.fieldLink RX10 21 "WetSuitPedalsShoes$Trial" "who" "LWetSuitPedalsShoes$Athlete;", Cond.fieldLink RX10 25 "WetSuitPedalsShoes$Trial" "drinkBehind" "I", Cond.methodLink RX10 39 yX1_become, Cond.instanceMethod yX1_become, Cond.selects RX1 yX1_become yX1_become, Cond.initialized RX1, Cond.code yX1_become cX1_become 2 none, Cond.fieldLink RX1 9 "WetSuitPedalsShoes$Course" "many" "I", Cond.fieldLink RX1 15 "WetSuitPedalsShoes$Course" "kind" "[I", Cond.methodLink RX1 25 arraycopyName, Cond.native arraycopyName, Cond.static arraycopyName, Cond.initialized "java/lang/System", Cond.fieldLink RX1 19 "WetSuitPedalsShoes$Course" "figure" "[I", Cond.fieldLink RX1 22 "WetSuitPedalsShoes$Course" "length" "[I", Cond.methodLink RX10 43 yX0_become, Cond.instanceMethod yX0_become, Cond.selects RX0 yX0_become yX0_become, Cond.initialized RX0, Cond.code yX0_become cX0_become 2 none, Cond.fieldLink RX0 9 "WetSuitPedalsShoes$Athlete" "able" "[I", Cond.methodLink RX0 18 arraycopyName]
def wsX11_meadow_r3 : List Cond := [Cond.fieldLink RX0 15 "WetSuitPedalsShoes$Athlete" "tries" "[I", Cond.methodLink RX11 168 yX10_run, Cond.instanceMethod yX10_run, Cond.selects RX10 yX10_run yX10_run, Cond.code yX10_run cX10_run 5 (some .int), Cond.fieldLink RX10 46 "WetSuitPedalsShoes$Athlete" "able" "[I", Cond.fieldLink RX10 49 "WetSuitPedalsShoes$Course" "many" "I", Cond.fieldLink RX10 52 "WetSuitPedalsShoes$Athlete" "tries" "[I", Cond.fieldLink RX10 29 "WetSuitPedalsShoes$Trial" "seconds" "[I", Cond.fieldLink RX10 65 "WetSuitPedalsShoes$Course" "kind" "[I", Cond.fieldLink RX10 68 "WetSuitPedalsShoes$Course" "length" "[I", Cond.methodLink RX10 75 Lib.Math.min.name, Cond.static Lib.Math.min.name, Cond.initialized "java/lang/Math", Cond.code Lib.Math.min.name Lib.Math.min.code 2 (some .int), Cond.fieldLink RX10 33 "WetSuitPedalsShoes$Trial" "legs" "[I", Cond.fieldLink RX10 36 "WetSuitPedalsShoes$Trial" "all" "[I", Cond.methodLink RX10 55 yX1_untried, Cond.instanceMethod yX1_untried, Cond.selects RX1 yX1_untried yX1_untried, Cond.code yX1_untried cX1_untried 6 (some .int), Cond.fieldLink RX1 39 "WetSuitPedalsShoes$Athlete" "able" "[I", Cond.methodLink RX1 44 yX1_isBehindRide, Cond.instanceMethod yX1_isBehindRide]
def wsX11_meadow_r4 : List Cond := [Cond.selects RX1 yX1_isBehindRide yX1_isBehindRide, Cond.code yX1_isBehindRide cX1_isBehindRide 2 (some .boolean), Cond.methodLink RX1 47 yX4_isRide, Cond.static yX4_isRide, Cond.initialized RX4, Cond.code yX4_isRide cX4_isRide 1 (some .boolean), Cond.methodLink RX10 59 yX4_secondsTrying, Cond.static yX4_secondsTrying, Cond.code yX4_secondsTrying cX4_secondsTrying 3 (some .int), Cond.methodLink RX10 71 yX4_legsBehind, Cond.static yX4_legsBehind, Cond.code yX4_legsBehind cX4_legsBehind 5 (some .int), Cond.methodLink RX4 15 Lib.Math.max.name, Cond.static Lib.Math.max.name, Cond.code Lib.Math.max.name Lib.Math.max.code 2 (some .int), Cond.methodLink RX4 21 Lib.Math.min.name, Cond.methodLink RX4 11 yX4_takes, Cond.static yX4_takes, Cond.code yX4_takes cX4_takes 1 (some .int), Cond.methodLink RX11 208 yX10_secondsOfChanges, Cond.instanceMethod yX10_secondsOfChanges, Cond.selects RX10 yX10_secondsOfChanges yX10_secondsOfChanges, Cond.code yX10_secondsOfChanges cX10_secondsOfChanges 3 (some .int), Cond.methodLink RX11 201 yX11_finishWith]
def wsX11_meadow_r5 : List Cond := [Cond.instanceMethod yX11_finishWith, Cond.selects RX11 yX11_finishWith yX11_finishWith, Cond.code yX11_finishWith cX11_finishWith 4 (some .int), Cond.fieldLink RX11 291 "WetSuitPedalsShoes$Trial" "who" "LWetSuitPedalsShoes$Athlete;", Cond.fieldLink RX11 122 "WetSuitPedalsShoes$Athlete" "able" "[I", Cond.methodLink RX11 295 Lib.Math.min.name]
def wsX11_meadow : List Cond := .code yX11_meadow cX11_meadow 6 (some .int) :: ((wsX11_meadow_r1 ++ (wsX11_meadow_r2 ++ (wsX11_meadow_r3 ++ (wsX11_meadow_r4 ++ wsX11_meadow_r5)))) ++ wsX110 ++ wsX30 ++ wsX100 ++ wsX10 ++ wsX00)
def wsX11_leave_r1 : List Cond := [Cond.fieldLink RX11 10 "WetSuitPedalsShoes" "field" "LWetSuitPedalsShoes$Field;", Cond.fieldLink RX11 93 "WetSuitPedalsShoes$Field" "course" "LWetSuitPedalsShoes$Course;", Cond.fieldLink RX11 138 "WetSuitPedalsShoes$Course" "many" "I", Cond.fieldLink RX11 44 "WetSuitPedalsShoes" "trial" "LWetSuitPedalsShoes$Trial;", Cond.fieldLink RX11 118 "WetSuitPedalsShoes$Field" "athletes" "[LWetSuitPedalsShoes$Athlete;", Cond.methodLink RX11 117 yX3_has, Cond.instanceMethod yX3_has, Cond.selects RX3 yX3_has yX3_has, Cond.initialized RX3, Cond.code yX3_has cX3_has 2 (some .boolean), Cond.fieldLink RX3 24 "WetSuitPedalsShoes$Field" "many" "I", Cond.methodLink RX11 72 yX11_refuse, Cond.instanceMethod yX11_refuse, Cond.selects RX11 yX11_refuse yX11_refuse, Cond.initialized RX11, Cond.code yX11_refuse cX11_refuse 3 (some .int), Cond.fieldLink RX11 37 "WetSuitPedalsShoes" "refusals" "[I", Cond.methodLink RX11 164 yX10_load, Cond.instanceMethod yX10_load, Cond.selects RX10 yX10_load yX10_load, Cond.initialized RX10, Cond.code yX10_load cX10_load 3 none, Cond.fieldLink RX10 12 "WetSuitPedalsShoes$Trial" "course" "LWetSuitPedalsShoes$Course;", Cond.fieldLink RX10 21 "WetSuitPedalsShoes$Trial" "who" "LWetSuitPedalsShoes$Athlete;"]
def wsX11_leave_r2 : List Cond := [Cond.fieldLink RX10 25 "WetSuitPedalsShoes$Trial" "drinkBehind" "I", Cond.methodLink RX10 39 yX1_become, Cond.instanceMethod yX1_become, Cond.selects RX1 yX1_become yX1_become, Cond.initialized RX1, Cond.code yX1_become cX1_become 2 none, Cond.fieldLink RX1 9 "WetSuitPedalsShoes$Course" "many" "I", Cond.fieldLink RX1 15 "WetSuitPedalsShoes$Course" "kind" "[I", Cond.methodLink RX1 25 arraycopyName, Cond.native arraycopyName, Cond.static arraycopyName, Cond.initialized "java/lang/System", Cond.fieldLink RX1 19 "WetSuitPedalsShoes$Course" "figure" "[I", Cond.fieldLink RX1 22 "WetSuitPedalsShoes$Course" "length" "[I", Cond.methodLink RX10 43 yX0_become, Cond.instanceMethod yX0_become, Cond.selects RX0 yX0_become yX0_become, Cond.initialized RX0, Cond.code yX0_become cX0_become 2 none, Cond.fieldLink RX0 9 "WetSuitPedalsShoes$Athlete" "able" "[I", Cond.methodLink RX0 18 arraycopyName, Cond.fieldLink RX0 15 "WetSuitPedalsShoes$Athlete" "tries" "[I", Cond.methodLink RX11 211 yX10_leaveOut, Cond.instanceMethod yX10_leaveOut]
def wsX11_leave_r3 : List Cond := [Cond.selects RX10 yX10_leaveOut yX10_leaveOut, Cond.code yX10_leaveOut cX10_leaveOut 3 none, Cond.fieldLink RX10 49 "WetSuitPedalsShoes$Course" "many" "I", Cond.fieldLink RX10 52 "WetSuitPedalsShoes$Athlete" "tries" "[I", Cond.methodLink RX10 85 yX1_has, Cond.instanceMethod yX1_has, Cond.selects RX1 yX1_has yX1_has, Cond.code yX1_has cX1_has 2 (some .boolean), Cond.methodLink RX10 88 yX1_remove, Cond.instanceMethod yX1_remove, Cond.selects RX1 yX1_remove yX1_remove, Cond.code yX1_remove cX1_remove 3 none, Cond.methodLink RX1 31 yX1_has, Cond.methodLink RX11 168 yX10_run, Cond.instanceMethod yX10_run, Cond.selects RX10 yX10_run yX10_run, Cond.code yX10_run cX10_run 5 (some .int), Cond.fieldLink RX10 46 "WetSuitPedalsShoes$Athlete" "able" "[I", Cond.fieldLink RX10 29 "WetSuitPedalsShoes$Trial" "seconds" "[I", Cond.fieldLink RX10 65 "WetSuitPedalsShoes$Course" "kind" "[I", Cond.fieldLink RX10 68 "WetSuitPedalsShoes$Course" "length" "[I", Cond.methodLink RX10 75 Lib.Math.min.name, Cond.static Lib.Math.min.name, Cond.initialized "java/lang/Math"]
def wsX11_leave_r4 : List Cond := [Cond.code Lib.Math.min.name Lib.Math.min.code 2 (some .int), Cond.fieldLink RX10 33 "WetSuitPedalsShoes$Trial" "legs" "[I", Cond.fieldLink RX10 36 "WetSuitPedalsShoes$Trial" "all" "[I", Cond.methodLink RX10 55 yX1_untried, Cond.instanceMethod yX1_untried, Cond.selects RX1 yX1_untried yX1_untried, Cond.code yX1_untried cX1_untried 6 (some .int), Cond.fieldLink RX1 39 "WetSuitPedalsShoes$Athlete" "able" "[I", Cond.methodLink RX1 44 yX1_isBehindRide, Cond.instanceMethod yX1_isBehindRide, Cond.selects RX1 yX1_isBehindRide yX1_isBehindRide, Cond.code yX1_isBehindRide cX1_isBehindRide 2 (some .boolean), Cond.methodLink RX1 47 yX4_isRide, Cond.static yX4_isRide, Cond.initialized RX4, Cond.code yX4_isRide cX4_isRide 1 (some .boolean), Cond.methodLink RX10 59 yX4_secondsTrying, Cond.static yX4_secondsTrying, Cond.code yX4_secondsTrying cX4_secondsTrying 3 (some .int), Cond.methodLink RX10 71 yX4_legsBehind, Cond.static yX4_legsBehind, Cond.code yX4_legsBehind cX4_legsBehind 5 (some .int), Cond.methodLink RX4 15 Lib.Math.max.name, Cond.static Lib.Math.max.name]
def wsX11_leave_r5 : List Cond := [Cond.code Lib.Math.max.name Lib.Math.max.code 2 (some .int), Cond.methodLink RX4 21 Lib.Math.min.name, Cond.methodLink RX4 11 yX4_takes, Cond.static yX4_takes, Cond.code yX4_takes cX4_takes 1 (some .int)]
def wsX11_leave : List Cond := .code yX11_leave cX11_leave 7 (some .int) :: ((wsX11_leave_r1 ++ (wsX11_leave_r2 ++ (wsX11_leave_r3 ++ (wsX11_leave_r4 ++ wsX11_leave_r5)))) ++ wsX110 ++ wsX30 ++ wsX10 ++ wsX100 ++ wsX00)
def wsX11_order_r1 : List Cond := [Cond.fieldLink RX11 10 "WetSuitPedalsShoes" "field" "LWetSuitPedalsShoes$Field;", Cond.fieldLink RX11 93 "WetSuitPedalsShoes$Field" "course" "LWetSuitPedalsShoes$Course;", Cond.fieldLink RX11 138 "WetSuitPedalsShoes$Course" "many" "I", Cond.fieldLink RX11 44 "WetSuitPedalsShoes" "trial" "LWetSuitPedalsShoes$Trial;", Cond.fieldLink RX11 214 "WetSuitPedalsShoes$Trial" "course" "LWetSuitPedalsShoes$Course;", Cond.methodLink RX11 117 yX3_has, Cond.instanceMethod yX3_has, Cond.selects RX3 yX3_has yX3_has, Cond.initialized RX3, Cond.code yX3_has cX3_has 2 (some .boolean), Cond.fieldLink RX3 24 "WetSuitPedalsShoes$Field" "many" "I", Cond.methodLink RX11 72 yX11_refuse, Cond.instanceMethod yX11_refuse, Cond.selects RX11 yX11_refuse yX11_refuse, Cond.initialized RX11, Cond.code yX11_refuse cX11_refuse 3 (some .int), Cond.fieldLink RX11 37 "WetSuitPedalsShoes" "refusals" "[I", Cond.methodLink RX11 142 yX11_runPlan, Cond.instanceMethod yX11_runPlan, Cond.selects RX11 yX11_runPlan yX11_runPlan, Cond.code yX11_runPlan cX11_runPlan 2 (some .int), Cond.fieldLink RX11 118 "WetSuitPedalsShoes$Field" "athletes" "[LWetSuitPedalsShoes$Athlete;", Cond.methodLink RX11 164 yX10_load, Cond.instanceMethod yX10_load]
def wsX11_order_r2 : List Cond := [Cond.selects RX10 yX10_load yX10_load, Cond.initialized RX10, Cond.code yX10_load cX10_load 3 none, Cond.fieldLink RX10 12 "WetSuitPedalsShoes$Trial" "course" "LWetSuitPedalsShoes$Course;", Cond.fieldLink RX10 21 "WetSuitPedalsShoes$Trial" "who" "LWetSuitPedalsShoes$Athlete;", Cond.fieldLink RX10 25 "WetSuitPedalsShoes$Trial" "drinkBehind" "I", Cond.methodLink RX10 39 yX1_become, Cond.instanceMethod yX1_become, Cond.selects RX1 yX1_become yX1_become, Cond.initialized RX1, Cond.code yX1_become cX1_become 2 none, Cond.fieldLink RX1 9 "WetSuitPedalsShoes$Course" "many" "I", Cond.fieldLink RX1 15 "WetSuitPedalsShoes$Course" "kind" "[I", Cond.methodLink RX1 25 arraycopyName, Cond.native arraycopyName, Cond.static arraycopyName, Cond.initialized "java/lang/System", Cond.fieldLink RX1 19 "WetSuitPedalsShoes$Course" "figure" "[I", Cond.fieldLink RX1 22 "WetSuitPedalsShoes$Course" "length" "[I", Cond.methodLink RX10 43 yX0_become, Cond.instanceMethod yX0_become, Cond.selects RX0 yX0_become yX0_become, Cond.initialized RX0, Cond.code yX0_become cX0_become 2 none]
def wsX11_order_r3 : List Cond := [Cond.fieldLink RX0 9 "WetSuitPedalsShoes$Athlete" "able" "[I", Cond.methodLink RX0 18 arraycopyName, Cond.fieldLink RX0 15 "WetSuitPedalsShoes$Athlete" "tries" "[I", Cond.methodLink RX11 168 yX10_run, Cond.instanceMethod yX10_run, Cond.selects RX10 yX10_run yX10_run, Cond.code yX10_run cX10_run 5 (some .int), Cond.fieldLink RX10 46 "WetSuitPedalsShoes$Athlete" "able" "[I", Cond.fieldLink RX10 49 "WetSuitPedalsShoes$Course" "many" "I", Cond.fieldLink RX10 52 "WetSuitPedalsShoes$Athlete" "tries" "[I", Cond.fieldLink RX10 29 "WetSuitPedalsShoes$Trial" "seconds" "[I", Cond.fieldLink RX10 65 "WetSuitPedalsShoes$Course" "kind" "[I", Cond.fieldLink RX10 68 "WetSuitPedalsShoes$Course" "length" "[I", Cond.methodLink RX10 75 Lib.Math.min.name, Cond.static Lib.Math.min.name, Cond.initialized "java/lang/Math", Cond.code Lib.Math.min.name Lib.Math.min.code 2 (some .int), Cond.fieldLink RX10 33 "WetSuitPedalsShoes$Trial" "legs" "[I", Cond.fieldLink RX10 36 "WetSuitPedalsShoes$Trial" "all" "[I", Cond.methodLink RX10 55 yX1_untried, Cond.instanceMethod yX1_untried, Cond.selects RX1 yX1_untried yX1_untried, Cond.code yX1_untried cX1_untried 6 (some .int), Cond.fieldLink RX1 39 "WetSuitPedalsShoes$Athlete" "able" "[I"]
def wsX11_order_r4 : List Cond := [Cond.methodLink RX1 44 yX1_isBehindRide, Cond.instanceMethod yX1_isBehindRide, Cond.selects RX1 yX1_isBehindRide yX1_isBehindRide, Cond.code yX1_isBehindRide cX1_isBehindRide 2 (some .boolean), Cond.methodLink RX1 47 yX4_isRide, Cond.static yX4_isRide, Cond.initialized RX4, Cond.code yX4_isRide cX4_isRide 1 (some .boolean), Cond.methodLink RX10 59 yX4_secondsTrying, Cond.static yX4_secondsTrying, Cond.code yX4_secondsTrying cX4_secondsTrying 3 (some .int), Cond.methodLink RX10 71 yX4_legsBehind, Cond.static yX4_legsBehind, Cond.code yX4_legsBehind cX4_legsBehind 5 (some .int), Cond.methodLink RX4 15 Lib.Math.max.name, Cond.static Lib.Math.max.name, Cond.code Lib.Math.max.name Lib.Math.max.code 2 (some .int), Cond.methodLink RX4 21 Lib.Math.min.name, Cond.methodLink RX4 11 yX4_takes, Cond.static yX4_takes, Cond.code yX4_takes cX4_takes 1 (some .int), Cond.methodLink RX11 134 yX1_exchange, Cond.instanceMethod yX1_exchange, Cond.selects RX1 yX1_exchange yX1_exchange]
def wsX11_order_r5 : List Cond := [Cond.code yX1_exchange cX1_exchange 3 none, Cond.methodLink RX1 31 yX1_has, Cond.instanceMethod yX1_has, Cond.selects RX1 yX1_has yX1_has, Cond.code yX1_has cX1_has 2 (some .boolean), Cond.methodLink RX1 35 yX1_exchange_, Cond.static yX1_exchange_, Cond.code yX1_exchange_ cX1_exchange_ 4 none]
def wsX11_order : List Cond := .code yX11_order cX11_order 7 (some .int) :: ((wsX11_order_r1 ++ (wsX11_order_r2 ++ (wsX11_order_r3 ++ (wsX11_order_r4 ++ wsX11_order_r5)))) ++ wsX110 ++ wsX30 ++ wsX10 ++ wsX100 ++ wsX00)
def wsX11_refusalOfOdds : List Cond := .code yX11_refusalOfOdds cX11_refusalOfOdds 5 (some .int) :: ([.fieldLink RX11 10 "WetSuitPedalsShoes" "field" "LWetSuitPedalsShoes$Field;", .methodLink RX11 117 yX3_has, .instanceMethod yX3_has, .selects RX3 yX3_has yX3_has, .initialized RX3, .code yX3_has cX3_has 2 (some .boolean), .fieldLink RX3 24 "WetSuitPedalsShoes$Field" "many" "I"] ++ wsX110 ++ wsX30)
def wsX11_isPart : List Cond := .code yX11_isPart cX11_isPart 1 (some .boolean) :: ([])
def wsX11_puncture_r1 : List Cond := [Cond.constantLong RX11 222 (4000000000000000000), Cond.fieldLink RX11 10 "WetSuitPedalsShoes" "field" "LWetSuitPedalsShoes$Field;", Cond.fieldLink RX11 93 "WetSuitPedalsShoes$Field" "course" "LWetSuitPedalsShoes$Course;", Cond.methodLink RX11 215 yX11_refusalOfOdds, Cond.instanceMethod yX11_refusalOfOdds, Cond.selects RX11 yX11_refusalOfOdds yX11_refusalOfOdds, Cond.initialized RX11, Cond.code yX11_refusalOfOdds cX11_refusalOfOdds 5 (some .int), Cond.methodLink RX11 117 yX3_has, Cond.instanceMethod yX3_has, Cond.selects RX3 yX3_has yX3_has, Cond.initialized RX3, Cond.code yX3_has cX3_has 2 (some .boolean), Cond.fieldLink RX3 24 "WetSuitPedalsShoes$Field" "many" "I", Cond.methodLink RX11 219 yX11_isPart, Cond.static yX11_isPart, Cond.code yX11_isPart cX11_isPart 1 (some .boolean), Cond.methodLink RX11 72 yX11_refuse, Cond.instanceMethod yX11_refuse, Cond.selects RX11 yX11_refuse yX11_refuse, Cond.code yX11_refuse cX11_refuse 3 (some .int), Cond.fieldLink RX11 37 "WetSuitPedalsShoes" "refusals" "[I", Cond.methodLink RX11 142 yX11_runPlan, Cond.instanceMethod yX11_runPlan]
def wsX11_puncture_r2 : List Cond := [Cond.selects RX11 yX11_runPlan yX11_runPlan, Cond.code yX11_runPlan cX11_runPlan 2 (some .int), Cond.fieldLink RX11 44 "WetSuitPedalsShoes" "trial" "LWetSuitPedalsShoes$Trial;", Cond.fieldLink RX11 118 "WetSuitPedalsShoes$Field" "athletes" "[LWetSuitPedalsShoes$Athlete;", Cond.methodLink RX11 164 yX10_load, Cond.instanceMethod yX10_load, Cond.selects RX10 yX10_load yX10_load, Cond.initialized RX10, Cond.code yX10_load cX10_load 3 none, Cond.fieldLink RX10 12 "WetSuitPedalsShoes$Trial" "course" "LWetSuitPedalsShoes$Course;", Cond.fieldLink RX10 21 "WetSuitPedalsShoes$Trial" "who" "LWetSuitPedalsShoes$Athlete;", Cond.fieldLink RX10 25 "WetSuitPedalsShoes$Trial" "drinkBehind" "I", Cond.methodLink RX10 39 yX1_become, Cond.instanceMethod yX1_become, Cond.selects RX1 yX1_become yX1_become, Cond.initialized RX1, Cond.code yX1_become cX1_become 2 none, Cond.fieldLink RX1 9 "WetSuitPedalsShoes$Course" "many" "I", Cond.fieldLink RX1 15 "WetSuitPedalsShoes$Course" "kind" "[I", Cond.methodLink RX1 25 arraycopyName, Cond.native arraycopyName, Cond.static arraycopyName, Cond.initialized "java/lang/System", Cond.fieldLink RX1 19 "WetSuitPedalsShoes$Course" "figure" "[I"]
def wsX11_puncture_r3 : List Cond := [Cond.fieldLink RX1 22 "WetSuitPedalsShoes$Course" "length" "[I", Cond.methodLink RX10 43 yX0_become, Cond.instanceMethod yX0_become, Cond.selects RX0 yX0_become yX0_become, Cond.initialized RX0, Cond.code yX0_become cX0_become 2 none, Cond.fieldLink RX0 9 "WetSuitPedalsShoes$Athlete" "able" "[I", Cond.methodLink RX0 18 arraycopyName, Cond.fieldLink RX0 15 "WetSuitPedalsShoes$Athlete" "tries" "[I", Cond.methodLink RX11 168 yX10_run, Cond.instanceMethod yX10_run, Cond.selects RX10 yX10_run yX10_run, Cond.code yX10_run cX10_run 5 (some .int), Cond.fieldLink RX10 46 "WetSuitPedalsShoes$Athlete" "able" "[I", Cond.fieldLink RX10 49 "WetSuitPedalsShoes$Course" "many" "I", Cond.fieldLink RX10 52 "WetSuitPedalsShoes$Athlete" "tries" "[I", Cond.fieldLink RX10 29 "WetSuitPedalsShoes$Trial" "seconds" "[I", Cond.fieldLink RX10 65 "WetSuitPedalsShoes$Course" "kind" "[I", Cond.fieldLink RX10 68 "WetSuitPedalsShoes$Course" "length" "[I", Cond.methodLink RX10 75 Lib.Math.min.name, Cond.static Lib.Math.min.name, Cond.initialized "java/lang/Math", Cond.code Lib.Math.min.name Lib.Math.min.code 2 (some .int), Cond.fieldLink RX10 33 "WetSuitPedalsShoes$Trial" "legs" "[I"]
def wsX11_puncture_r4 : List Cond := [Cond.fieldLink RX10 36 "WetSuitPedalsShoes$Trial" "all" "[I", Cond.methodLink RX10 55 yX1_untried, Cond.instanceMethod yX1_untried, Cond.selects RX1 yX1_untried yX1_untried, Cond.code yX1_untried cX1_untried 6 (some .int), Cond.fieldLink RX1 39 "WetSuitPedalsShoes$Athlete" "able" "[I", Cond.methodLink RX1 44 yX1_isBehindRide, Cond.instanceMethod yX1_isBehindRide, Cond.selects RX1 yX1_isBehindRide yX1_isBehindRide, Cond.code yX1_isBehindRide cX1_isBehindRide 2 (some .boolean), Cond.methodLink RX1 47 yX4_isRide, Cond.static yX4_isRide, Cond.initialized RX4, Cond.code yX4_isRide cX4_isRide 1 (some .boolean), Cond.methodLink RX10 59 yX4_secondsTrying, Cond.static yX4_secondsTrying, Cond.code yX4_secondsTrying cX4_secondsTrying 3 (some .int), Cond.methodLink RX10 71 yX4_legsBehind, Cond.static yX4_legsBehind, Cond.code yX4_legsBehind cX4_legsBehind 5 (some .int), Cond.methodLink RX4 15 Lib.Math.max.name, Cond.static Lib.Math.max.name, Cond.code Lib.Math.max.name Lib.Math.max.code 2 (some .int), Cond.methodLink RX4 21 Lib.Math.min.name]
def wsX11_puncture_r5 : List Cond := [Cond.methodLink RX4 11 yX4_takes, Cond.static yX4_takes, Cond.code yX4_takes cX4_takes 1 (some .int), Cond.methodLink RX11 224 yX1_rides, Cond.instanceMethod yX1_rides, Cond.selects RX1 yX1_rides yX1_rides, Cond.code yX1_rides cX1_rides 3 (some .int), Cond.methodLink RX11 227 yX6_waysWithin, Cond.static yX6_waysWithin, Cond.initialized RX6, Cond.code yX6_waysWithin cX6_waysWithin 9 (some .long), Cond.methodLink RX6 7 yX6_power, Cond.static yX6_power, Cond.code yX6_power cX6_power 6 (some .long), Cond.methodLink RX11 233 yX6_power, Cond.methodLink RX11 237 yX6_partInLeastTerms, Cond.static yX6_partInLeastTerms, Cond.code yX6_partInLeastTerms cX6_partInLeastTerms 7 (some .long), Cond.methodLink RX6 13 yX6_commonDivisor, Cond.static yX6_commonDivisor, Cond.code yX6_commonDivisor cX6_commonDivisor 11 (some .long)]
def wsX11_puncture : List Cond := .code yX11_puncture cX11_puncture 11 (some .long) :: ((wsX11_puncture_r1 ++ (wsX11_puncture_r2 ++ (wsX11_puncture_r3 ++ (wsX11_puncture_r4 ++ wsX11_puncture_r5)))) ++ wsX110 ++ wsX30 ++ wsX100 ++ wsX10 ++ wsX00)
def wsX11_mean_r1 : List Cond := [Cond.constantLong RX11 222 (4000000000000000000), Cond.fieldLink RX11 10 "WetSuitPedalsShoes" "field" "LWetSuitPedalsShoes$Field;", Cond.fieldLink RX11 93 "WetSuitPedalsShoes$Field" "course" "LWetSuitPedalsShoes$Course;", Cond.methodLink RX11 215 yX11_refusalOfOdds, Cond.instanceMethod yX11_refusalOfOdds, Cond.selects RX11 yX11_refusalOfOdds yX11_refusalOfOdds, Cond.initialized RX11, Cond.code yX11_refusalOfOdds cX11_refusalOfOdds 5 (some .int), Cond.methodLink RX11 117 yX3_has, Cond.instanceMethod yX3_has, Cond.selects RX3 yX3_has yX3_has, Cond.initialized RX3, Cond.code yX3_has cX3_has 2 (some .boolean), Cond.fieldLink RX3 24 "WetSuitPedalsShoes$Field" "many" "I", Cond.methodLink RX11 219 yX11_isPart, Cond.static yX11_isPart, Cond.code yX11_isPart cX11_isPart 1 (some .boolean), Cond.methodLink RX11 72 yX11_refuse, Cond.instanceMethod yX11_refuse, Cond.selects RX11 yX11_refuse yX11_refuse, Cond.code yX11_refuse cX11_refuse 3 (some .int), Cond.fieldLink RX11 37 "WetSuitPedalsShoes" "refusals" "[I", Cond.methodLink RX11 142 yX11_runPlan, Cond.instanceMethod yX11_runPlan]
def wsX11_mean_r2 : List Cond := [Cond.selects RX11 yX11_runPlan yX11_runPlan, Cond.code yX11_runPlan cX11_runPlan 2 (some .int), Cond.fieldLink RX11 44 "WetSuitPedalsShoes" "trial" "LWetSuitPedalsShoes$Trial;", Cond.fieldLink RX11 118 "WetSuitPedalsShoes$Field" "athletes" "[LWetSuitPedalsShoes$Athlete;", Cond.methodLink RX11 164 yX10_load, Cond.instanceMethod yX10_load, Cond.selects RX10 yX10_load yX10_load, Cond.initialized RX10, Cond.code yX10_load cX10_load 3 none, Cond.fieldLink RX10 12 "WetSuitPedalsShoes$Trial" "course" "LWetSuitPedalsShoes$Course;", Cond.fieldLink RX10 21 "WetSuitPedalsShoes$Trial" "who" "LWetSuitPedalsShoes$Athlete;", Cond.fieldLink RX10 25 "WetSuitPedalsShoes$Trial" "drinkBehind" "I", Cond.methodLink RX10 39 yX1_become, Cond.instanceMethod yX1_become, Cond.selects RX1 yX1_become yX1_become, Cond.initialized RX1, Cond.code yX1_become cX1_become 2 none, Cond.fieldLink RX1 9 "WetSuitPedalsShoes$Course" "many" "I", Cond.fieldLink RX1 15 "WetSuitPedalsShoes$Course" "kind" "[I", Cond.methodLink RX1 25 arraycopyName, Cond.native arraycopyName, Cond.static arraycopyName, Cond.initialized "java/lang/System", Cond.fieldLink RX1 19 "WetSuitPedalsShoes$Course" "figure" "[I"]
def wsX11_mean_r3 : List Cond := [Cond.fieldLink RX1 22 "WetSuitPedalsShoes$Course" "length" "[I", Cond.methodLink RX10 43 yX0_become, Cond.instanceMethod yX0_become, Cond.selects RX0 yX0_become yX0_become, Cond.initialized RX0, Cond.code yX0_become cX0_become 2 none, Cond.fieldLink RX0 9 "WetSuitPedalsShoes$Athlete" "able" "[I", Cond.methodLink RX0 18 arraycopyName, Cond.fieldLink RX0 15 "WetSuitPedalsShoes$Athlete" "tries" "[I", Cond.methodLink RX11 168 yX10_run, Cond.instanceMethod yX10_run, Cond.selects RX10 yX10_run yX10_run, Cond.code yX10_run cX10_run 5 (some .int), Cond.fieldLink RX10 46 "WetSuitPedalsShoes$Athlete" "able" "[I", Cond.fieldLink RX10 49 "WetSuitPedalsShoes$Course" "many" "I", Cond.fieldLink RX10 52 "WetSuitPedalsShoes$Athlete" "tries" "[I", Cond.fieldLink RX10 29 "WetSuitPedalsShoes$Trial" "seconds" "[I", Cond.fieldLink RX10 65 "WetSuitPedalsShoes$Course" "kind" "[I", Cond.fieldLink RX10 68 "WetSuitPedalsShoes$Course" "length" "[I", Cond.methodLink RX10 75 Lib.Math.min.name, Cond.static Lib.Math.min.name, Cond.initialized "java/lang/Math", Cond.code Lib.Math.min.name Lib.Math.min.code 2 (some .int), Cond.fieldLink RX10 33 "WetSuitPedalsShoes$Trial" "legs" "[I"]
def wsX11_mean_r4 : List Cond := [Cond.fieldLink RX10 36 "WetSuitPedalsShoes$Trial" "all" "[I", Cond.methodLink RX10 55 yX1_untried, Cond.instanceMethod yX1_untried, Cond.selects RX1 yX1_untried yX1_untried, Cond.code yX1_untried cX1_untried 6 (some .int), Cond.fieldLink RX1 39 "WetSuitPedalsShoes$Athlete" "able" "[I", Cond.methodLink RX1 44 yX1_isBehindRide, Cond.instanceMethod yX1_isBehindRide, Cond.selects RX1 yX1_isBehindRide yX1_isBehindRide, Cond.code yX1_isBehindRide cX1_isBehindRide 2 (some .boolean), Cond.methodLink RX1 47 yX4_isRide, Cond.static yX4_isRide, Cond.initialized RX4, Cond.code yX4_isRide cX4_isRide 1 (some .boolean), Cond.methodLink RX10 59 yX4_secondsTrying, Cond.static yX4_secondsTrying, Cond.code yX4_secondsTrying cX4_secondsTrying 3 (some .int), Cond.methodLink RX10 71 yX4_legsBehind, Cond.static yX4_legsBehind, Cond.code yX4_legsBehind cX4_legsBehind 5 (some .int), Cond.methodLink RX4 15 Lib.Math.max.name, Cond.static Lib.Math.max.name, Cond.code Lib.Math.max.name Lib.Math.max.code 2 (some .int), Cond.methodLink RX4 21 Lib.Math.min.name]
def wsX11_mean_r5 : List Cond := [Cond.methodLink RX4 11 yX4_takes, Cond.static yX4_takes, Cond.code yX4_takes cX4_takes 1 (some .int), Cond.methodLink RX11 224 yX1_rides, Cond.instanceMethod yX1_rides, Cond.selects RX1 yX1_rides yX1_rides, Cond.code yX1_rides cX1_rides 3 (some .int), Cond.methodLink RX11 237 yX6_partInLeastTerms, Cond.static yX6_partInLeastTerms, Cond.initialized RX6, Cond.code yX6_partInLeastTerms cX6_partInLeastTerms 7 (some .long), Cond.methodLink RX6 13 yX6_commonDivisor, Cond.static yX6_commonDivisor, Cond.code yX6_commonDivisor cX6_commonDivisor 11 (some .long)]
def wsX11_mean : List Cond := .code yX11_mean cX11_mean 8 (some .long) :: ((wsX11_mean_r1 ++ (wsX11_mean_r2 ++ (wsX11_mean_r3 ++ (wsX11_mean_r4 ++ wsX11_mean_r5)))) ++ wsX110 ++ wsX30 ++ wsX100 ++ wsX10 ++ wsX00)
def wsX11_tube_r1 : List Cond := [Cond.fieldLink RX11 10 "WetSuitPedalsShoes" "field" "LWetSuitPedalsShoes$Field;", Cond.fieldLink RX11 93 "WetSuitPedalsShoes$Field" "course" "LWetSuitPedalsShoes$Course;", Cond.methodLink RX11 215 yX11_refusalOfOdds, Cond.instanceMethod yX11_refusalOfOdds, Cond.selects RX11 yX11_refusalOfOdds yX11_refusalOfOdds, Cond.initialized RX11, Cond.code yX11_refusalOfOdds cX11_refusalOfOdds 5 (some .int), Cond.methodLink RX11 117 yX3_has, Cond.instanceMethod yX3_has, Cond.selects RX3 yX3_has yX3_has, Cond.initialized RX3, Cond.code yX3_has cX3_has 2 (some .boolean), Cond.fieldLink RX3 24 "WetSuitPedalsShoes$Field" "many" "I", Cond.methodLink RX11 72 yX11_refuse, Cond.instanceMethod yX11_refuse, Cond.selects RX11 yX11_refuse yX11_refuse, Cond.code yX11_refuse cX11_refuse 3 (some .int), Cond.fieldLink RX11 37 "WetSuitPedalsShoes" "refusals" "[I", Cond.methodLink RX11 224 yX1_rides, Cond.instanceMethod yX1_rides, Cond.selects RX1 yX1_rides yX1_rides, Cond.initialized RX1, Cond.code yX1_rides cX1_rides 3 (some .int), Cond.fieldLink RX1 9 "WetSuitPedalsShoes$Course" "many" "I"]
def wsX11_tube_r2 : List Cond := [Cond.fieldLink RX1 15 "WetSuitPedalsShoes$Course" "kind" "[I", Cond.methodLink RX1 47 yX4_isRide, Cond.static yX4_isRide, Cond.initialized RX4, Cond.code yX4_isRide cX4_isRide 1 (some .boolean)]
def wsX11_tube : List Cond := .code yX11_tube cX11_tube 6 (some .int) :: ((wsX11_tube_r1 ++ wsX11_tube_r2) ++ wsX110 ++ wsX30 ++ wsX10)
def wsX11_draw_r1 : List Cond := [Cond.fieldLink RX11 10 "WetSuitPedalsShoes" "field" "LWetSuitPedalsShoes$Field;", Cond.fieldLink RX11 241 "WetSuitPedalsShoes$Field" "many" "I", Cond.methodLink RX11 117 yX3_has, Cond.instanceMethod yX3_has, Cond.selects RX3 yX3_has yX3_has, Cond.initialized RX3, Cond.code yX3_has cX3_has 2 (some .boolean), Cond.fieldLink RX3 24 "WetSuitPedalsShoes$Field" "many" "I", Cond.methodLink RX11 72 yX11_refuse, Cond.instanceMethod yX11_refuse, Cond.selects RX11 yX11_refuse yX11_refuse, Cond.initialized RX11, Cond.code yX11_refuse cX11_refuse 3 (some .int), Cond.fieldLink RX11 37 "WetSuitPedalsShoes" "refusals" "[I", Cond.methodLink RX11 142 yX11_runPlan, Cond.instanceMethod yX11_runPlan, Cond.selects RX11 yX11_runPlan yX11_runPlan, Cond.code yX11_runPlan cX11_runPlan 2 (some .int), Cond.fieldLink RX11 44 "WetSuitPedalsShoes" "trial" "LWetSuitPedalsShoes$Trial;", Cond.fieldLink RX11 93 "WetSuitPedalsShoes$Field" "course" "LWetSuitPedalsShoes$Course;", Cond.fieldLink RX11 118 "WetSuitPedalsShoes$Field" "athletes" "[LWetSuitPedalsShoes$Athlete;", Cond.methodLink RX11 164 yX10_load, Cond.instanceMethod yX10_load, Cond.selects RX10 yX10_load yX10_load]
def wsX11_draw_r2 : List Cond := [Cond.initialized RX10, Cond.code yX10_load cX10_load 3 none, Cond.fieldLink RX10 12 "WetSuitPedalsShoes$Trial" "course" "LWetSuitPedalsShoes$Course;", Cond.fieldLink RX10 21 "WetSuitPedalsShoes$Trial" "who" "LWetSuitPedalsShoes$Athlete;", Cond.fieldLink RX10 25 "WetSuitPedalsShoes$Trial" "drinkBehind" "I", Cond.methodLink RX10 39 yX1_become, Cond.instanceMethod yX1_become, Cond.selects RX1 yX1_become yX1_become, Cond.initialized RX1, Cond.code yX1_become cX1_become 2 none, Cond.fieldLink RX1 9 "WetSuitPedalsShoes$Course" "many" "I", Cond.fieldLink RX1 15 "WetSuitPedalsShoes$Course" "kind" "[I", Cond.methodLink RX1 25 arraycopyName, Cond.native arraycopyName, Cond.static arraycopyName, Cond.initialized "java/lang/System", Cond.fieldLink RX1 19 "WetSuitPedalsShoes$Course" "figure" "[I", Cond.fieldLink RX1 22 "WetSuitPedalsShoes$Course" "length" "[I", Cond.methodLink RX10 43 yX0_become, Cond.instanceMethod yX0_become, Cond.selects RX0 yX0_become yX0_become, Cond.initialized RX0, Cond.code yX0_become cX0_become 2 none, Cond.fieldLink RX0 9 "WetSuitPedalsShoes$Athlete" "able" "[I"]
def wsX11_draw_r3 : List Cond := [Cond.methodLink RX0 18 arraycopyName, Cond.fieldLink RX0 15 "WetSuitPedalsShoes$Athlete" "tries" "[I", Cond.methodLink RX11 168 yX10_run, Cond.instanceMethod yX10_run, Cond.selects RX10 yX10_run yX10_run, Cond.code yX10_run cX10_run 5 (some .int), Cond.fieldLink RX10 46 "WetSuitPedalsShoes$Athlete" "able" "[I", Cond.fieldLink RX10 49 "WetSuitPedalsShoes$Course" "many" "I", Cond.fieldLink RX10 52 "WetSuitPedalsShoes$Athlete" "tries" "[I", Cond.fieldLink RX10 29 "WetSuitPedalsShoes$Trial" "seconds" "[I", Cond.fieldLink RX10 65 "WetSuitPedalsShoes$Course" "kind" "[I", Cond.fieldLink RX10 68 "WetSuitPedalsShoes$Course" "length" "[I", Cond.methodLink RX10 75 Lib.Math.min.name, Cond.static Lib.Math.min.name, Cond.initialized "java/lang/Math", Cond.code Lib.Math.min.name Lib.Math.min.code 2 (some .int), Cond.fieldLink RX10 33 "WetSuitPedalsShoes$Trial" "legs" "[I", Cond.fieldLink RX10 36 "WetSuitPedalsShoes$Trial" "all" "[I", Cond.methodLink RX10 55 yX1_untried, Cond.instanceMethod yX1_untried, Cond.selects RX1 yX1_untried yX1_untried, Cond.code yX1_untried cX1_untried 6 (some .int), Cond.fieldLink RX1 39 "WetSuitPedalsShoes$Athlete" "able" "[I", Cond.methodLink RX1 44 yX1_isBehindRide]
def wsX11_draw_r4 : List Cond := [Cond.instanceMethod yX1_isBehindRide, Cond.selects RX1 yX1_isBehindRide yX1_isBehindRide, Cond.code yX1_isBehindRide cX1_isBehindRide 2 (some .boolean), Cond.methodLink RX1 47 yX4_isRide, Cond.static yX4_isRide, Cond.initialized RX4, Cond.code yX4_isRide cX4_isRide 1 (some .boolean), Cond.methodLink RX10 59 yX4_secondsTrying, Cond.static yX4_secondsTrying, Cond.code yX4_secondsTrying cX4_secondsTrying 3 (some .int), Cond.methodLink RX10 71 yX4_legsBehind, Cond.static yX4_legsBehind, Cond.code yX4_legsBehind cX4_legsBehind 5 (some .int), Cond.methodLink RX4 15 Lib.Math.max.name, Cond.static Lib.Math.max.name, Cond.code Lib.Math.max.name Lib.Math.max.code 2 (some .int), Cond.methodLink RX4 21 Lib.Math.min.name, Cond.methodLink RX4 11 yX4_takes, Cond.static yX4_takes, Cond.code yX4_takes cX4_takes 1 (some .int)]
def wsX11_draw : List Cond := .code yX11_draw cX11_draw 8 (some .int) :: ((wsX11_draw_r1 ++ (wsX11_draw_r2 ++ (wsX11_draw_r3 ++ wsX11_draw_r4))) ++ wsX110 ++ wsX30 ++ wsX100 ++ wsX10 ++ wsX00)
def wsX11_finishTrying_r1 : List Cond := [Cond.fieldLink RX11 44 "WetSuitPedalsShoes" "trial" "LWetSuitPedalsShoes$Trial;", Cond.fieldLink RX11 10 "WetSuitPedalsShoes" "field" "LWetSuitPedalsShoes$Field;", Cond.fieldLink RX11 93 "WetSuitPedalsShoes$Field" "course" "LWetSuitPedalsShoes$Course;", Cond.fieldLink RX11 118 "WetSuitPedalsShoes$Field" "athletes" "[LWetSuitPedalsShoes$Athlete;", Cond.fieldLink RX11 291 "WetSuitPedalsShoes$Trial" "who" "LWetSuitPedalsShoes$Athlete;", Cond.fieldLink RX11 127 "WetSuitPedalsShoes$Athlete" "tries" "[I", Cond.methodLink RX11 164 yX10_load, Cond.instanceMethod yX10_load, Cond.selects RX10 yX10_load yX10_load, Cond.initialized RX10, Cond.code yX10_load cX10_load 3 none, Cond.fieldLink RX10 12 "WetSuitPedalsShoes$Trial" "course" "LWetSuitPedalsShoes$Course;", Cond.fieldLink RX10 21 "WetSuitPedalsShoes$Trial" "who" "LWetSuitPedalsShoes$Athlete;", Cond.fieldLink RX10 25 "WetSuitPedalsShoes$Trial" "drinkBehind" "I", Cond.methodLink RX10 39 yX1_become, Cond.instanceMethod yX1_become, Cond.selects RX1 yX1_become yX1_become, Cond.initialized RX1, Cond.code yX1_become cX1_become 2 none, Cond.fieldLink RX1 9 "WetSuitPedalsShoes$Course" "many" "I", Cond.fieldLink RX1 15 "WetSuitPedalsShoes$Course" "kind" "[I", Cond.methodLink RX1 25 arraycopyName, Cond.native arraycopyName, Cond.static arraycopyName]
def wsX11_finishTrying_r2 : List Cond := [Cond.initialized "java/lang/System", Cond.fieldLink RX1 19 "WetSuitPedalsShoes$Course" "figure" "[I", Cond.fieldLink RX1 22 "WetSuitPedalsShoes$Course" "length" "[I", Cond.methodLink RX10 43 yX0_become, Cond.instanceMethod yX0_become, Cond.selects RX0 yX0_become yX0_become, Cond.initialized RX0, Cond.code yX0_become cX0_become 2 none, Cond.fieldLink RX0 9 "WetSuitPedalsShoes$Athlete" "able" "[I", Cond.methodLink RX0 18 arraycopyName, Cond.fieldLink RX0 15 "WetSuitPedalsShoes$Athlete" "tries" "[I", Cond.methodLink RX11 168 yX10_run, Cond.instanceMethod yX10_run, Cond.selects RX10 yX10_run yX10_run, Cond.code yX10_run cX10_run 5 (some .int), Cond.fieldLink RX10 46 "WetSuitPedalsShoes$Athlete" "able" "[I", Cond.fieldLink RX10 49 "WetSuitPedalsShoes$Course" "many" "I", Cond.fieldLink RX10 52 "WetSuitPedalsShoes$Athlete" "tries" "[I", Cond.fieldLink RX10 29 "WetSuitPedalsShoes$Trial" "seconds" "[I", Cond.fieldLink RX10 65 "WetSuitPedalsShoes$Course" "kind" "[I", Cond.fieldLink RX10 68 "WetSuitPedalsShoes$Course" "length" "[I", Cond.methodLink RX10 75 Lib.Math.min.name, Cond.static Lib.Math.min.name, Cond.initialized "java/lang/Math"]
def wsX11_finishTrying_r3 : List Cond := [Cond.code Lib.Math.min.name Lib.Math.min.code 2 (some .int), Cond.fieldLink RX10 33 "WetSuitPedalsShoes$Trial" "legs" "[I", Cond.fieldLink RX10 36 "WetSuitPedalsShoes$Trial" "all" "[I", Cond.methodLink RX10 55 yX1_untried, Cond.instanceMethod yX1_untried, Cond.selects RX1 yX1_untried yX1_untried, Cond.code yX1_untried cX1_untried 6 (some .int), Cond.fieldLink RX1 39 "WetSuitPedalsShoes$Athlete" "able" "[I", Cond.methodLink RX1 44 yX1_isBehindRide, Cond.instanceMethod yX1_isBehindRide, Cond.selects RX1 yX1_isBehindRide yX1_isBehindRide, Cond.code yX1_isBehindRide cX1_isBehindRide 2 (some .boolean), Cond.methodLink RX1 47 yX4_isRide, Cond.static yX4_isRide, Cond.initialized RX4, Cond.code yX4_isRide cX4_isRide 1 (some .boolean), Cond.methodLink RX10 59 yX4_secondsTrying, Cond.static yX4_secondsTrying, Cond.code yX4_secondsTrying cX4_secondsTrying 3 (some .int), Cond.methodLink RX10 71 yX4_legsBehind, Cond.static yX4_legsBehind, Cond.code yX4_legsBehind cX4_legsBehind 5 (some .int), Cond.methodLink RX4 15 Lib.Math.max.name, Cond.static Lib.Math.max.name]
def wsX11_finishTrying_r4 : List Cond := [Cond.code Lib.Math.max.name Lib.Math.max.code 2 (some .int), Cond.methodLink RX4 21 Lib.Math.min.name, Cond.methodLink RX4 11 yX4_takes, Cond.static yX4_takes, Cond.code yX4_takes cX4_takes 1 (some .int)]
def wsX11_finishTrying : List Cond := .code yX11_finishTrying cX11_finishTrying 4 (some .int) :: ((wsX11_finishTrying_r1 ++ (wsX11_finishTrying_r2 ++ (wsX11_finishTrying_r3 ++ wsX11_finishTrying_r4))) ++ wsX110 ++ wsX30 ++ wsX100 ++ wsX00 ++ wsX10)
def wsX11_two_r1 : List Cond := [Cond.fieldLink RX11 10 "WetSuitPedalsShoes" "field" "LWetSuitPedalsShoes$Field;", Cond.fieldLink RX11 93 "WetSuitPedalsShoes$Field" "course" "LWetSuitPedalsShoes$Course;", Cond.fieldLink RX11 61 "WetSuitPedalsShoes" "duel" "LWetSuitPedalsShoes$Duel;", Cond.fieldLink RX11 242 "WetSuitPedalsShoes$Duel" "first" "[I", Cond.fieldLink RX11 248 "WetSuitPedalsShoes$Duel" "second" "[I", Cond.methodLink RX11 117 yX3_has, Cond.instanceMethod yX3_has, Cond.selects RX3 yX3_has yX3_has, Cond.initialized RX3, Cond.code yX3_has cX3_has 2 (some .boolean), Cond.fieldLink RX3 24 "WetSuitPedalsShoes$Field" "many" "I", Cond.methodLink RX11 97 yX1_has, Cond.instanceMethod yX1_has, Cond.selects RX1 yX1_has yX1_has, Cond.initialized RX1, Cond.code yX1_has cX1_has 2 (some .boolean), Cond.fieldLink RX1 9 "WetSuitPedalsShoes$Course" "many" "I", Cond.methodLink RX11 72 yX11_refuse, Cond.instanceMethod yX11_refuse, Cond.selects RX11 yX11_refuse yX11_refuse, Cond.initialized RX11, Cond.code yX11_refuse cX11_refuse 3 (some .int), Cond.fieldLink RX11 37 "WetSuitPedalsShoes" "refusals" "[I", Cond.methodLink RX11 245 yX11_finishTrying]
def wsX11_two_r2 : List Cond := [Cond.instanceMethod yX11_finishTrying, Cond.selects RX11 yX11_finishTrying yX11_finishTrying, Cond.code yX11_finishTrying cX11_finishTrying 4 (some .int), Cond.fieldLink RX11 44 "WetSuitPedalsShoes" "trial" "LWetSuitPedalsShoes$Trial;", Cond.fieldLink RX11 118 "WetSuitPedalsShoes$Field" "athletes" "[LWetSuitPedalsShoes$Athlete;", Cond.fieldLink RX11 291 "WetSuitPedalsShoes$Trial" "who" "LWetSuitPedalsShoes$Athlete;", Cond.fieldLink RX11 127 "WetSuitPedalsShoes$Athlete" "tries" "[I", Cond.methodLink RX11 164 yX10_load, Cond.instanceMethod yX10_load, Cond.selects RX10 yX10_load yX10_load, Cond.initialized RX10, Cond.code yX10_load cX10_load 3 none, Cond.fieldLink RX10 12 "WetSuitPedalsShoes$Trial" "course" "LWetSuitPedalsShoes$Course;", Cond.fieldLink RX10 21 "WetSuitPedalsShoes$Trial" "who" "LWetSuitPedalsShoes$Athlete;", Cond.fieldLink RX10 25 "WetSuitPedalsShoes$Trial" "drinkBehind" "I", Cond.methodLink RX10 39 yX1_become, Cond.instanceMethod yX1_become, Cond.selects RX1 yX1_become yX1_become, Cond.code yX1_become cX1_become 2 none, Cond.fieldLink RX1 15 "WetSuitPedalsShoes$Course" "kind" "[I", Cond.methodLink RX1 25 arraycopyName, Cond.native arraycopyName, Cond.static arraycopyName, Cond.initialized "java/lang/System"]
def wsX11_two_r3 : List Cond := [Cond.fieldLink RX1 19 "WetSuitPedalsShoes$Course" "figure" "[I", Cond.fieldLink RX1 22 "WetSuitPedalsShoes$Course" "length" "[I", Cond.methodLink RX10 43 yX0_become, Cond.instanceMethod yX0_become, Cond.selects RX0 yX0_become yX0_become, Cond.initialized RX0, Cond.code yX0_become cX0_become 2 none, Cond.fieldLink RX0 9 "WetSuitPedalsShoes$Athlete" "able" "[I", Cond.methodLink RX0 18 arraycopyName, Cond.fieldLink RX0 15 "WetSuitPedalsShoes$Athlete" "tries" "[I", Cond.methodLink RX11 168 yX10_run, Cond.instanceMethod yX10_run, Cond.selects RX10 yX10_run yX10_run, Cond.code yX10_run cX10_run 5 (some .int), Cond.fieldLink RX10 46 "WetSuitPedalsShoes$Athlete" "able" "[I", Cond.fieldLink RX10 49 "WetSuitPedalsShoes$Course" "many" "I", Cond.fieldLink RX10 52 "WetSuitPedalsShoes$Athlete" "tries" "[I", Cond.fieldLink RX10 29 "WetSuitPedalsShoes$Trial" "seconds" "[I", Cond.fieldLink RX10 65 "WetSuitPedalsShoes$Course" "kind" "[I", Cond.fieldLink RX10 68 "WetSuitPedalsShoes$Course" "length" "[I", Cond.methodLink RX10 75 Lib.Math.min.name, Cond.static Lib.Math.min.name, Cond.initialized "java/lang/Math", Cond.code Lib.Math.min.name Lib.Math.min.code 2 (some .int)]
def wsX11_two_r4 : List Cond := [Cond.fieldLink RX10 33 "WetSuitPedalsShoes$Trial" "legs" "[I", Cond.fieldLink RX10 36 "WetSuitPedalsShoes$Trial" "all" "[I", Cond.methodLink RX10 55 yX1_untried, Cond.instanceMethod yX1_untried, Cond.selects RX1 yX1_untried yX1_untried, Cond.code yX1_untried cX1_untried 6 (some .int), Cond.fieldLink RX1 39 "WetSuitPedalsShoes$Athlete" "able" "[I", Cond.methodLink RX1 44 yX1_isBehindRide, Cond.instanceMethod yX1_isBehindRide, Cond.selects RX1 yX1_isBehindRide yX1_isBehindRide, Cond.code yX1_isBehindRide cX1_isBehindRide 2 (some .boolean), Cond.methodLink RX1 47 yX4_isRide, Cond.static yX4_isRide, Cond.initialized RX4, Cond.code yX4_isRide cX4_isRide 1 (some .boolean), Cond.methodLink RX10 59 yX4_secondsTrying, Cond.static yX4_secondsTrying, Cond.code yX4_secondsTrying cX4_secondsTrying 3 (some .int), Cond.methodLink RX10 71 yX4_legsBehind, Cond.static yX4_legsBehind, Cond.code yX4_legsBehind cX4_legsBehind 5 (some .int), Cond.methodLink RX4 15 Lib.Math.max.name, Cond.static Lib.Math.max.name, Cond.code Lib.Math.max.name Lib.Math.max.code 2 (some .int)]
def wsX11_two_r5 : List Cond := [Cond.methodLink RX4 21 Lib.Math.min.name, Cond.methodLink RX4 11 yX4_takes, Cond.static yX4_takes, Cond.code yX4_takes cX4_takes 1 (some .int), Cond.methodLink RX11 251 yX2_settled, Cond.instanceMethod yX2_settled, Cond.selects RX2 yX2_settled yX2_settled, Cond.initialized RX2, Cond.code yX2_settled cX2_settled 3 (some .int), Cond.fieldLink RX2 9 "WetSuitPedalsShoes$Duel" "first" "[I", Cond.fieldLink RX2 15 "WetSuitPedalsShoes$Duel" "second" "[I", Cond.methodLink RX2 18 yX2_isBestAgainst, Cond.static yX2_isBestAgainst, Cond.code yX2_isBestAgainst cX2_isBestAgainst 5 (some .boolean), Cond.methodLink RX2 22 yX2_hindered, Cond.static yX2_hindered, Cond.code yX2_hindered cX2_hindered 3 (some .int)]
def wsX11_two : List Cond := .code yX11_two cX11_two 5 (some .int) :: ((wsX11_two_r1 ++ (wsX11_two_r2 ++ (wsX11_two_r3 ++ (wsX11_two_r4 ++ wsX11_two_r5)))) ++ wsX110 ++ wsX30 ++ wsX20 ++ wsX10 ++ wsX100 ++ wsX00)
def wsX11_isAsTold_r1 : List Cond := [Cond.fieldLink RX11 10 "WetSuitPedalsShoes" "field" "LWetSuitPedalsShoes$Field;", Cond.fieldLink RX11 241 "WetSuitPedalsShoes$Field" "many" "I", Cond.fieldLink RX11 44 "WetSuitPedalsShoes" "trial" "LWetSuitPedalsShoes$Trial;", Cond.fieldLink RX11 93 "WetSuitPedalsShoes$Field" "course" "LWetSuitPedalsShoes$Course;", Cond.fieldLink RX11 118 "WetSuitPedalsShoes$Field" "athletes" "[LWetSuitPedalsShoes$Athlete;", Cond.fieldLink RX11 214 "WetSuitPedalsShoes$Trial" "course" "LWetSuitPedalsShoes$Course;", Cond.fieldLink RX11 145 "WetSuitPedalsShoes$Trial" "seconds" "[I", Cond.methodLink RX11 295 Lib.Math.min.name, Cond.static Lib.Math.min.name, Cond.initialized "java/lang/Math", Cond.code Lib.Math.min.name Lib.Math.min.code 2 (some .int), Cond.fieldLink RX11 33 "WetSuitPedalsShoes" "told" "LWetSuitPedalsShoes$Row;", Cond.fieldLink RX11 305 "WetSuitPedalsShoes$Row" "numbers" "[I", Cond.methodLink RX11 164 yX10_load, Cond.instanceMethod yX10_load, Cond.selects RX10 yX10_load yX10_load, Cond.initialized RX10, Cond.code yX10_load cX10_load 3 none, Cond.fieldLink RX10 12 "WetSuitPedalsShoes$Trial" "course" "LWetSuitPedalsShoes$Course;", Cond.fieldLink RX10 21 "WetSuitPedalsShoes$Trial" "who" "LWetSuitPedalsShoes$Athlete;", Cond.fieldLink RX10 25 "WetSuitPedalsShoes$Trial" "drinkBehind" "I", Cond.methodLink RX10 39 yX1_become, Cond.instanceMethod yX1_become, Cond.selects RX1 yX1_become yX1_become]
def wsX11_isAsTold_r2 : List Cond := [Cond.initialized RX1, Cond.code yX1_become cX1_become 2 none, Cond.fieldLink RX1 9 "WetSuitPedalsShoes$Course" "many" "I", Cond.fieldLink RX1 15 "WetSuitPedalsShoes$Course" "kind" "[I", Cond.methodLink RX1 25 arraycopyName, Cond.native arraycopyName, Cond.static arraycopyName, Cond.initialized "java/lang/System", Cond.fieldLink RX1 19 "WetSuitPedalsShoes$Course" "figure" "[I", Cond.fieldLink RX1 22 "WetSuitPedalsShoes$Course" "length" "[I", Cond.methodLink RX10 43 yX0_become, Cond.instanceMethod yX0_become, Cond.selects RX0 yX0_become yX0_become, Cond.initialized RX0, Cond.code yX0_become cX0_become 2 none, Cond.fieldLink RX0 9 "WetSuitPedalsShoes$Athlete" "able" "[I", Cond.methodLink RX0 18 arraycopyName, Cond.fieldLink RX0 15 "WetSuitPedalsShoes$Athlete" "tries" "[I", Cond.methodLink RX11 130 yX1_become_, Cond.instanceMethod yX1_become_, Cond.selects RX1 yX1_become_ yX1_become_, Cond.code yX1_become_ cX1_become_ 4 none, Cond.methodLink RX1 31 yX1_has, Cond.instanceMethod yX1_has]
def wsX11_isAsTold_r3 : List Cond := [Cond.selects RX1 yX1_has yX1_has, Cond.code yX1_has cX1_has 2 (some .boolean), Cond.methodLink RX11 168 yX10_run, Cond.instanceMethod yX10_run, Cond.selects RX10 yX10_run yX10_run, Cond.code yX10_run cX10_run 5 (some .int), Cond.fieldLink RX10 46 "WetSuitPedalsShoes$Athlete" "able" "[I", Cond.fieldLink RX10 49 "WetSuitPedalsShoes$Course" "many" "I", Cond.fieldLink RX10 52 "WetSuitPedalsShoes$Athlete" "tries" "[I", Cond.fieldLink RX10 29 "WetSuitPedalsShoes$Trial" "seconds" "[I", Cond.fieldLink RX10 65 "WetSuitPedalsShoes$Course" "kind" "[I", Cond.fieldLink RX10 68 "WetSuitPedalsShoes$Course" "length" "[I", Cond.methodLink RX10 75 Lib.Math.min.name, Cond.fieldLink RX10 33 "WetSuitPedalsShoes$Trial" "legs" "[I", Cond.fieldLink RX10 36 "WetSuitPedalsShoes$Trial" "all" "[I", Cond.methodLink RX10 55 yX1_untried, Cond.instanceMethod yX1_untried, Cond.selects RX1 yX1_untried yX1_untried, Cond.code yX1_untried cX1_untried 6 (some .int), Cond.fieldLink RX1 39 "WetSuitPedalsShoes$Athlete" "able" "[I", Cond.methodLink RX1 44 yX1_isBehindRide, Cond.instanceMethod yX1_isBehindRide, Cond.selects RX1 yX1_isBehindRide yX1_isBehindRide, Cond.code yX1_isBehindRide cX1_isBehindRide 2 (some .boolean)]
def wsX11_isAsTold_r4 : List Cond := [Cond.methodLink RX1 47 yX4_isRide, Cond.static yX4_isRide, Cond.initialized RX4, Cond.code yX4_isRide cX4_isRide 1 (some .boolean), Cond.methodLink RX10 59 yX4_secondsTrying, Cond.static yX4_secondsTrying, Cond.code yX4_secondsTrying cX4_secondsTrying 3 (some .int), Cond.methodLink RX10 71 yX4_legsBehind, Cond.static yX4_legsBehind, Cond.code yX4_legsBehind cX4_legsBehind 5 (some .int), Cond.methodLink RX4 15 Lib.Math.max.name, Cond.static Lib.Math.max.name, Cond.code Lib.Math.max.name Lib.Math.max.code 2 (some .int), Cond.methodLink RX4 21 Lib.Math.min.name, Cond.methodLink RX4 11 yX4_takes, Cond.static yX4_takes, Cond.code yX4_takes cX4_takes 1 (some .int)]
def wsX11_isAsTold : List Cond := .code yX11_isAsTold cX11_isAsTold 5 (some .boolean) :: ((wsX11_isAsTold_r1 ++ (wsX11_isAsTold_r2 ++ (wsX11_isAsTold_r3 ++ wsX11_isAsTold_r4))) ++ wsX110 ++ wsX30 ++ wsX100 ++ wsX80 ++ wsX10 ++ wsX00)
def wsX11_kindsAsTold_r1 : List Cond := [Cond.fieldLink RX11 10 "WetSuitPedalsShoes" "field" "LWetSuitPedalsShoes$Field;", Cond.fieldLink RX11 93 "WetSuitPedalsShoes$Field" "course" "LWetSuitPedalsShoes$Course;", Cond.fieldLink RX11 106 "WetSuitPedalsShoes$Course" "figure" "[I", Cond.methodLink RX11 301 yX11_isAsTold, Cond.instanceMethod yX11_isAsTold, Cond.selects RX11 yX11_isAsTold yX11_isAsTold, Cond.initialized RX11, Cond.code yX11_isAsTold cX11_isAsTold 5 (some .boolean), Cond.fieldLink RX11 241 "WetSuitPedalsShoes$Field" "many" "I", Cond.fieldLink RX11 44 "WetSuitPedalsShoes" "trial" "LWetSuitPedalsShoes$Trial;", Cond.fieldLink RX11 118 "WetSuitPedalsShoes$Field" "athletes" "[LWetSuitPedalsShoes$Athlete;", Cond.fieldLink RX11 214 "WetSuitPedalsShoes$Trial" "course" "LWetSuitPedalsShoes$Course;", Cond.fieldLink RX11 145 "WetSuitPedalsShoes$Trial" "seconds" "[I", Cond.methodLink RX11 295 Lib.Math.min.name, Cond.static Lib.Math.min.name, Cond.initialized "java/lang/Math", Cond.code Lib.Math.min.name Lib.Math.min.code 2 (some .int), Cond.fieldLink RX11 33 "WetSuitPedalsShoes" "told" "LWetSuitPedalsShoes$Row;", Cond.fieldLink RX11 305 "WetSuitPedalsShoes$Row" "numbers" "[I", Cond.methodLink RX11 164 yX10_load, Cond.instanceMethod yX10_load, Cond.selects RX10 yX10_load yX10_load, Cond.initialized RX10, Cond.code yX10_load cX10_load 3 none]
def wsX11_kindsAsTold_r2 : List Cond := [Cond.fieldLink RX10 12 "WetSuitPedalsShoes$Trial" "course" "LWetSuitPedalsShoes$Course;", Cond.fieldLink RX10 21 "WetSuitPedalsShoes$Trial" "who" "LWetSuitPedalsShoes$Athlete;", Cond.fieldLink RX10 25 "WetSuitPedalsShoes$Trial" "drinkBehind" "I", Cond.methodLink RX10 39 yX1_become, Cond.instanceMethod yX1_become, Cond.selects RX1 yX1_become yX1_become, Cond.initialized RX1, Cond.code yX1_become cX1_become 2 none, Cond.fieldLink RX1 9 "WetSuitPedalsShoes$Course" "many" "I", Cond.fieldLink RX1 15 "WetSuitPedalsShoes$Course" "kind" "[I", Cond.methodLink RX1 25 arraycopyName, Cond.native arraycopyName, Cond.static arraycopyName, Cond.initialized "java/lang/System", Cond.fieldLink RX1 19 "WetSuitPedalsShoes$Course" "figure" "[I", Cond.fieldLink RX1 22 "WetSuitPedalsShoes$Course" "length" "[I", Cond.methodLink RX10 43 yX0_become, Cond.instanceMethod yX0_become, Cond.selects RX0 yX0_become yX0_become, Cond.initialized RX0, Cond.code yX0_become cX0_become 2 none, Cond.fieldLink RX0 9 "WetSuitPedalsShoes$Athlete" "able" "[I", Cond.methodLink RX0 18 arraycopyName, Cond.fieldLink RX0 15 "WetSuitPedalsShoes$Athlete" "tries" "[I"]
def wsX11_kindsAsTold_r3 : List Cond := [Cond.methodLink RX11 130 yX1_become_, Cond.instanceMethod yX1_become_, Cond.selects RX1 yX1_become_ yX1_become_, Cond.code yX1_become_ cX1_become_ 4 none, Cond.methodLink RX1 31 yX1_has, Cond.instanceMethod yX1_has, Cond.selects RX1 yX1_has yX1_has, Cond.code yX1_has cX1_has 2 (some .boolean), Cond.methodLink RX11 168 yX10_run, Cond.instanceMethod yX10_run, Cond.selects RX10 yX10_run yX10_run, Cond.code yX10_run cX10_run 5 (some .int), Cond.fieldLink RX10 46 "WetSuitPedalsShoes$Athlete" "able" "[I", Cond.fieldLink RX10 49 "WetSuitPedalsShoes$Course" "many" "I", Cond.fieldLink RX10 52 "WetSuitPedalsShoes$Athlete" "tries" "[I", Cond.fieldLink RX10 29 "WetSuitPedalsShoes$Trial" "seconds" "[I", Cond.fieldLink RX10 65 "WetSuitPedalsShoes$Course" "kind" "[I", Cond.fieldLink RX10 68 "WetSuitPedalsShoes$Course" "length" "[I", Cond.methodLink RX10 75 Lib.Math.min.name, Cond.fieldLink RX10 33 "WetSuitPedalsShoes$Trial" "legs" "[I", Cond.fieldLink RX10 36 "WetSuitPedalsShoes$Trial" "all" "[I", Cond.methodLink RX10 55 yX1_untried, Cond.instanceMethod yX1_untried, Cond.selects RX1 yX1_untried yX1_untried]
def wsX11_kindsAsTold_r4 : List Cond := [Cond.code yX1_untried cX1_untried 6 (some .int), Cond.fieldLink RX1 39 "WetSuitPedalsShoes$Athlete" "able" "[I", Cond.methodLink RX1 44 yX1_isBehindRide, Cond.instanceMethod yX1_isBehindRide, Cond.selects RX1 yX1_isBehindRide yX1_isBehindRide, Cond.code yX1_isBehindRide cX1_isBehindRide 2 (some .boolean), Cond.methodLink RX1 47 yX4_isRide, Cond.static yX4_isRide, Cond.initialized RX4, Cond.code yX4_isRide cX4_isRide 1 (some .boolean), Cond.methodLink RX10 59 yX4_secondsTrying, Cond.static yX4_secondsTrying, Cond.code yX4_secondsTrying cX4_secondsTrying 3 (some .int), Cond.methodLink RX10 71 yX4_legsBehind, Cond.static yX4_legsBehind, Cond.code yX4_legsBehind cX4_legsBehind 5 (some .int), Cond.methodLink RX4 15 Lib.Math.max.name, Cond.static Lib.Math.max.name, Cond.code Lib.Math.max.name Lib.Math.max.code 2 (some .int), Cond.methodLink RX4 21 Lib.Math.min.name, Cond.methodLink RX4 11 yX4_takes, Cond.static yX4_takes, Cond.code yX4_takes cX4_takes 1 (some .int)]
def wsX11_kindsAsTold : List Cond := .code yX11_kindsAsTold cX11_kindsAsTold 4 (some .int) :: ((wsX11_kindsAsTold_r1 ++ (wsX11_kindsAsTold_r2 ++ (wsX11_kindsAsTold_r3 ++ wsX11_kindsAsTold_r4))) ++ wsX110 ++ wsX30 ++ wsX10 ++ wsX100 ++ wsX80 ++ wsX00)
def wsX11_figuresAsTold_r1 : List Cond := [Cond.fieldLink RX11 10 "WetSuitPedalsShoes" "field" "LWetSuitPedalsShoes$Field;", Cond.fieldLink RX11 93 "WetSuitPedalsShoes$Field" "course" "LWetSuitPedalsShoes$Course;", Cond.fieldLink RX11 103 "WetSuitPedalsShoes$Course" "kind" "[I", Cond.methodLink RX11 301 yX11_isAsTold, Cond.instanceMethod yX11_isAsTold, Cond.selects RX11 yX11_isAsTold yX11_isAsTold, Cond.initialized RX11, Cond.code yX11_isAsTold cX11_isAsTold 5 (some .boolean), Cond.fieldLink RX11 241 "WetSuitPedalsShoes$Field" "many" "I", Cond.fieldLink RX11 44 "WetSuitPedalsShoes" "trial" "LWetSuitPedalsShoes$Trial;", Cond.fieldLink RX11 118 "WetSuitPedalsShoes$Field" "athletes" "[LWetSuitPedalsShoes$Athlete;", Cond.fieldLink RX11 214 "WetSuitPedalsShoes$Trial" "course" "LWetSuitPedalsShoes$Course;", Cond.fieldLink RX11 145 "WetSuitPedalsShoes$Trial" "seconds" "[I", Cond.methodLink RX11 295 Lib.Math.min.name, Cond.static Lib.Math.min.name, Cond.initialized "java/lang/Math", Cond.code Lib.Math.min.name Lib.Math.min.code 2 (some .int), Cond.fieldLink RX11 33 "WetSuitPedalsShoes" "told" "LWetSuitPedalsShoes$Row;", Cond.fieldLink RX11 305 "WetSuitPedalsShoes$Row" "numbers" "[I", Cond.methodLink RX11 164 yX10_load, Cond.instanceMethod yX10_load, Cond.selects RX10 yX10_load yX10_load, Cond.initialized RX10, Cond.code yX10_load cX10_load 3 none]
def wsX11_figuresAsTold_r2 : List Cond := [Cond.fieldLink RX10 12 "WetSuitPedalsShoes$Trial" "course" "LWetSuitPedalsShoes$Course;", Cond.fieldLink RX10 21 "WetSuitPedalsShoes$Trial" "who" "LWetSuitPedalsShoes$Athlete;", Cond.fieldLink RX10 25 "WetSuitPedalsShoes$Trial" "drinkBehind" "I", Cond.methodLink RX10 39 yX1_become, Cond.instanceMethod yX1_become, Cond.selects RX1 yX1_become yX1_become, Cond.initialized RX1, Cond.code yX1_become cX1_become 2 none, Cond.fieldLink RX1 9 "WetSuitPedalsShoes$Course" "many" "I", Cond.fieldLink RX1 15 "WetSuitPedalsShoes$Course" "kind" "[I", Cond.methodLink RX1 25 arraycopyName, Cond.native arraycopyName, Cond.static arraycopyName, Cond.initialized "java/lang/System", Cond.fieldLink RX1 19 "WetSuitPedalsShoes$Course" "figure" "[I", Cond.fieldLink RX1 22 "WetSuitPedalsShoes$Course" "length" "[I", Cond.methodLink RX10 43 yX0_become, Cond.instanceMethod yX0_become, Cond.selects RX0 yX0_become yX0_become, Cond.initialized RX0, Cond.code yX0_become cX0_become 2 none, Cond.fieldLink RX0 9 "WetSuitPedalsShoes$Athlete" "able" "[I", Cond.methodLink RX0 18 arraycopyName, Cond.fieldLink RX0 15 "WetSuitPedalsShoes$Athlete" "tries" "[I"]
def wsX11_figuresAsTold_r3 : List Cond := [Cond.methodLink RX11 130 yX1_become_, Cond.instanceMethod yX1_become_, Cond.selects RX1 yX1_become_ yX1_become_, Cond.code yX1_become_ cX1_become_ 4 none, Cond.methodLink RX1 31 yX1_has, Cond.instanceMethod yX1_has, Cond.selects RX1 yX1_has yX1_has, Cond.code yX1_has cX1_has 2 (some .boolean), Cond.methodLink RX11 168 yX10_run, Cond.instanceMethod yX10_run, Cond.selects RX10 yX10_run yX10_run, Cond.code yX10_run cX10_run 5 (some .int), Cond.fieldLink RX10 46 "WetSuitPedalsShoes$Athlete" "able" "[I", Cond.fieldLink RX10 49 "WetSuitPedalsShoes$Course" "many" "I", Cond.fieldLink RX10 52 "WetSuitPedalsShoes$Athlete" "tries" "[I", Cond.fieldLink RX10 29 "WetSuitPedalsShoes$Trial" "seconds" "[I", Cond.fieldLink RX10 65 "WetSuitPedalsShoes$Course" "kind" "[I", Cond.fieldLink RX10 68 "WetSuitPedalsShoes$Course" "length" "[I", Cond.methodLink RX10 75 Lib.Math.min.name, Cond.fieldLink RX10 33 "WetSuitPedalsShoes$Trial" "legs" "[I", Cond.fieldLink RX10 36 "WetSuitPedalsShoes$Trial" "all" "[I", Cond.methodLink RX10 55 yX1_untried, Cond.instanceMethod yX1_untried, Cond.selects RX1 yX1_untried yX1_untried]
def wsX11_figuresAsTold_r4 : List Cond := [Cond.code yX1_untried cX1_untried 6 (some .int), Cond.fieldLink RX1 39 "WetSuitPedalsShoes$Athlete" "able" "[I", Cond.methodLink RX1 44 yX1_isBehindRide, Cond.instanceMethod yX1_isBehindRide, Cond.selects RX1 yX1_isBehindRide yX1_isBehindRide, Cond.code yX1_isBehindRide cX1_isBehindRide 2 (some .boolean), Cond.methodLink RX1 47 yX4_isRide, Cond.static yX4_isRide, Cond.initialized RX4, Cond.code yX4_isRide cX4_isRide 1 (some .boolean), Cond.methodLink RX10 59 yX4_secondsTrying, Cond.static yX4_secondsTrying, Cond.code yX4_secondsTrying cX4_secondsTrying 3 (some .int), Cond.methodLink RX10 71 yX4_legsBehind, Cond.static yX4_legsBehind, Cond.code yX4_legsBehind cX4_legsBehind 5 (some .int), Cond.methodLink RX4 15 Lib.Math.max.name, Cond.static Lib.Math.max.name, Cond.code Lib.Math.max.name Lib.Math.max.code 2 (some .int), Cond.methodLink RX4 21 Lib.Math.min.name, Cond.methodLink RX4 11 yX4_takes, Cond.static yX4_takes, Cond.code yX4_takes cX4_takes 1 (some .int)]
def wsX11_figuresAsTold : List Cond := .code yX11_figuresAsTold cX11_figuresAsTold 4 (some .int) :: ((wsX11_figuresAsTold_r1 ++ (wsX11_figuresAsTold_r2 ++ (wsX11_figuresAsTold_r3 ++ wsX11_figuresAsTold_r4))) ++ wsX110 ++ wsX30 ++ wsX10 ++ wsX100 ++ wsX80 ++ wsX00)
def wsX11_whatWas_r1 : List Cond := [Cond.fieldLink RX11 10 "WetSuitPedalsShoes" "field" "LWetSuitPedalsShoes$Field;", Cond.fieldLink RX11 93 "WetSuitPedalsShoes$Field" "course" "LWetSuitPedalsShoes$Course;", Cond.fieldLink RX11 33 "WetSuitPedalsShoes" "told" "LWetSuitPedalsShoes$Row;", Cond.fieldLink RX11 254 "WetSuitPedalsShoes$Row" "many" "I", Cond.fieldLink RX11 241 "WetSuitPedalsShoes$Field" "many" "I", Cond.methodLink RX11 97 yX1_has, Cond.instanceMethod yX1_has, Cond.selects RX1 yX1_has yX1_has, Cond.initialized RX1, Cond.code yX1_has cX1_has 2 (some .boolean), Cond.fieldLink RX1 9 "WetSuitPedalsShoes$Course" "many" "I", Cond.methodLink RX11 72 yX11_refuse, Cond.instanceMethod yX11_refuse, Cond.selects RX11 yX11_refuse yX11_refuse, Cond.initialized RX11, Cond.code yX11_refuse cX11_refuse 3 (some .int), Cond.fieldLink RX11 37 "WetSuitPedalsShoes" "refusals" "[I", Cond.methodLink RX11 255 yX11_kindsAsTold, Cond.instanceMethod yX11_kindsAsTold, Cond.selects RX11 yX11_kindsAsTold yX11_kindsAsTold, Cond.code yX11_kindsAsTold cX11_kindsAsTold 4 (some .int), Cond.fieldLink RX11 106 "WetSuitPedalsShoes$Course" "figure" "[I", Cond.methodLink RX11 301 yX11_isAsTold, Cond.instanceMethod yX11_isAsTold]
def wsX11_whatWas_r2 : List Cond := [Cond.selects RX11 yX11_isAsTold yX11_isAsTold, Cond.code yX11_isAsTold cX11_isAsTold 5 (some .boolean), Cond.fieldLink RX11 44 "WetSuitPedalsShoes" "trial" "LWetSuitPedalsShoes$Trial;", Cond.fieldLink RX11 118 "WetSuitPedalsShoes$Field" "athletes" "[LWetSuitPedalsShoes$Athlete;", Cond.fieldLink RX11 214 "WetSuitPedalsShoes$Trial" "course" "LWetSuitPedalsShoes$Course;", Cond.fieldLink RX11 145 "WetSuitPedalsShoes$Trial" "seconds" "[I", Cond.methodLink RX11 295 Lib.Math.min.name, Cond.static Lib.Math.min.name, Cond.initialized "java/lang/Math", Cond.code Lib.Math.min.name Lib.Math.min.code 2 (some .int), Cond.fieldLink RX11 305 "WetSuitPedalsShoes$Row" "numbers" "[I", Cond.methodLink RX11 164 yX10_load, Cond.instanceMethod yX10_load, Cond.selects RX10 yX10_load yX10_load, Cond.initialized RX10, Cond.code yX10_load cX10_load 3 none, Cond.fieldLink RX10 12 "WetSuitPedalsShoes$Trial" "course" "LWetSuitPedalsShoes$Course;", Cond.fieldLink RX10 21 "WetSuitPedalsShoes$Trial" "who" "LWetSuitPedalsShoes$Athlete;", Cond.fieldLink RX10 25 "WetSuitPedalsShoes$Trial" "drinkBehind" "I", Cond.methodLink RX10 39 yX1_become, Cond.instanceMethod yX1_become, Cond.selects RX1 yX1_become yX1_become, Cond.code yX1_become cX1_become 2 none, Cond.fieldLink RX1 15 "WetSuitPedalsShoes$Course" "kind" "[I"]
def wsX11_whatWas_r3 : List Cond := [Cond.methodLink RX1 25 arraycopyName, Cond.native arraycopyName, Cond.static arraycopyName, Cond.initialized "java/lang/System", Cond.fieldLink RX1 19 "WetSuitPedalsShoes$Course" "figure" "[I", Cond.fieldLink RX1 22 "WetSuitPedalsShoes$Course" "length" "[I", Cond.methodLink RX10 43 yX0_become, Cond.instanceMethod yX0_become, Cond.selects RX0 yX0_become yX0_become, Cond.initialized RX0, Cond.code yX0_become cX0_become 2 none, Cond.fieldLink RX0 9 "WetSuitPedalsShoes$Athlete" "able" "[I", Cond.methodLink RX0 18 arraycopyName, Cond.fieldLink RX0 15 "WetSuitPedalsShoes$Athlete" "tries" "[I", Cond.methodLink RX11 130 yX1_become_, Cond.instanceMethod yX1_become_, Cond.selects RX1 yX1_become_ yX1_become_, Cond.code yX1_become_ cX1_become_ 4 none, Cond.methodLink RX1 31 yX1_has, Cond.methodLink RX11 168 yX10_run, Cond.instanceMethod yX10_run, Cond.selects RX10 yX10_run yX10_run, Cond.code yX10_run cX10_run 5 (some .int), Cond.fieldLink RX10 46 "WetSuitPedalsShoes$Athlete" "able" "[I"]
def wsX11_whatWas_r4 : List Cond := [Cond.fieldLink RX10 49 "WetSuitPedalsShoes$Course" "many" "I", Cond.fieldLink RX10 52 "WetSuitPedalsShoes$Athlete" "tries" "[I", Cond.fieldLink RX10 29 "WetSuitPedalsShoes$Trial" "seconds" "[I", Cond.fieldLink RX10 65 "WetSuitPedalsShoes$Course" "kind" "[I", Cond.fieldLink RX10 68 "WetSuitPedalsShoes$Course" "length" "[I", Cond.methodLink RX10 75 Lib.Math.min.name, Cond.fieldLink RX10 33 "WetSuitPedalsShoes$Trial" "legs" "[I", Cond.fieldLink RX10 36 "WetSuitPedalsShoes$Trial" "all" "[I", Cond.methodLink RX10 55 yX1_untried, Cond.instanceMethod yX1_untried, Cond.selects RX1 yX1_untried yX1_untried, Cond.code yX1_untried cX1_untried 6 (some .int), Cond.fieldLink RX1 39 "WetSuitPedalsShoes$Athlete" "able" "[I", Cond.methodLink RX1 44 yX1_isBehindRide, Cond.instanceMethod yX1_isBehindRide, Cond.selects RX1 yX1_isBehindRide yX1_isBehindRide, Cond.code yX1_isBehindRide cX1_isBehindRide 2 (some .boolean), Cond.methodLink RX1 47 yX4_isRide, Cond.static yX4_isRide, Cond.initialized RX4, Cond.code yX4_isRide cX4_isRide 1 (some .boolean), Cond.methodLink RX10 59 yX4_secondsTrying, Cond.static yX4_secondsTrying, Cond.code yX4_secondsTrying cX4_secondsTrying 3 (some .int)]
def wsX11_whatWas_r5 : List Cond := [Cond.methodLink RX10 71 yX4_legsBehind, Cond.static yX4_legsBehind, Cond.code yX4_legsBehind cX4_legsBehind 5 (some .int), Cond.methodLink RX4 15 Lib.Math.max.name, Cond.static Lib.Math.max.name, Cond.code Lib.Math.max.name Lib.Math.max.code 2 (some .int), Cond.methodLink RX4 21 Lib.Math.min.name, Cond.methodLink RX4 11 yX4_takes, Cond.static yX4_takes, Cond.code yX4_takes cX4_takes 1 (some .int), Cond.methodLink RX11 258 yX11_figuresAsTold, Cond.instanceMethod yX11_figuresAsTold, Cond.selects RX11 yX11_figuresAsTold yX11_figuresAsTold, Cond.code yX11_figuresAsTold cX11_figuresAsTold 4 (some .int), Cond.fieldLink RX11 103 "WetSuitPedalsShoes$Course" "kind" "[I"]
def wsX11_whatWas : List Cond := .code yX11_whatWas cX11_whatWas 3 (some .int) :: ((wsX11_whatWas_r1 ++ (wsX11_whatWas_r2 ++ (wsX11_whatWas_r3 ++ (wsX11_whatWas_r4 ++ wsX11_whatWas_r5)))) ++ wsX110 ++ wsX30 ++ wsX80 ++ wsX10 ++ wsX100 ++ wsX00)
def wsX11_row : List Cond := .code yX11_row cX11_row 2 (some .int) :: ([.fieldLink RX11 33 "WetSuitPedalsShoes" "told" "LWetSuitPedalsShoes$Row;", .methodLink RX11 72 yX11_refuse, .instanceMethod yX11_refuse, .selects RX11 yX11_refuse yX11_refuse, .initialized RX11, .code yX11_refuse cX11_refuse 3 (some .int), .fieldLink RX11 37 "WetSuitPedalsShoes" "refusals" "[I", .methodLink RX11 261 yX8_isFull, .instanceMethod yX8_isFull, .selects RX8 yX8_isFull yX8_isFull, .initialized RX8, .code yX8_isFull cX8_isFull 1 (some .boolean), .fieldLink RX8 9 "WetSuitPedalsShoes$Row" "many" "I", .methodLink RX11 262 yX8_put, .instanceMethod yX8_put, .selects RX8 yX8_put yX8_put, .code yX8_put cX8_put 2 (some .int), .fieldLink RX8 15 "WetSuitPedalsShoes$Row" "numbers" "[I"] ++ wsX110 ++ wsX80)
def wsX11_judge_r1 : List Cond := [Cond.fieldLink RX11 10 "WetSuitPedalsShoes" "field" "LWetSuitPedalsShoes$Field;", Cond.fieldLink RX11 33 "WetSuitPedalsShoes" "told" "LWetSuitPedalsShoes$Row;", Cond.fieldLink RX11 44 "WetSuitPedalsShoes" "trial" "LWetSuitPedalsShoes$Trial;", Cond.fieldLink RX11 148 "WetSuitPedalsShoes$Trial" "legs" "[I", Cond.fieldLink RX11 93 "WetSuitPedalsShoes$Field" "course" "LWetSuitPedalsShoes$Course;", Cond.fieldLink RX11 138 "WetSuitPedalsShoes$Course" "many" "I", Cond.methodLink RX11 117 yX3_has, Cond.instanceMethod yX3_has, Cond.selects RX3 yX3_has yX3_has, Cond.initialized RX3, Cond.code yX3_has cX3_has 2 (some .boolean), Cond.fieldLink RX3 24 "WetSuitPedalsShoes$Field" "many" "I", Cond.methodLink RX11 72 yX11_refuse, Cond.instanceMethod yX11_refuse, Cond.selects RX11 yX11_refuse yX11_refuse, Cond.initialized RX11, Cond.code yX11_refuse cX11_refuse 3 (some .int), Cond.fieldLink RX11 37 "WetSuitPedalsShoes" "refusals" "[I", Cond.methodLink RX11 142 yX11_runPlan, Cond.instanceMethod yX11_runPlan, Cond.selects RX11 yX11_runPlan yX11_runPlan, Cond.code yX11_runPlan cX11_runPlan 2 (some .int), Cond.fieldLink RX11 118 "WetSuitPedalsShoes$Field" "athletes" "[LWetSuitPedalsShoes$Athlete;", Cond.methodLink RX11 164 yX10_load]
def wsX11_judge_r2 : List Cond := [Cond.instanceMethod yX10_load, Cond.selects RX10 yX10_load yX10_load, Cond.initialized RX10, Cond.code yX10_load cX10_load 3 none, Cond.fieldLink RX10 12 "WetSuitPedalsShoes$Trial" "course" "LWetSuitPedalsShoes$Course;", Cond.fieldLink RX10 21 "WetSuitPedalsShoes$Trial" "who" "LWetSuitPedalsShoes$Athlete;", Cond.fieldLink RX10 25 "WetSuitPedalsShoes$Trial" "drinkBehind" "I", Cond.methodLink RX10 39 yX1_become, Cond.instanceMethod yX1_become, Cond.selects RX1 yX1_become yX1_become, Cond.initialized RX1, Cond.code yX1_become cX1_become 2 none, Cond.fieldLink RX1 9 "WetSuitPedalsShoes$Course" "many" "I", Cond.fieldLink RX1 15 "WetSuitPedalsShoes$Course" "kind" "[I", Cond.methodLink RX1 25 arraycopyName, Cond.native arraycopyName, Cond.static arraycopyName, Cond.initialized "java/lang/System", Cond.fieldLink RX1 19 "WetSuitPedalsShoes$Course" "figure" "[I", Cond.fieldLink RX1 22 "WetSuitPedalsShoes$Course" "length" "[I", Cond.methodLink RX10 43 yX0_become, Cond.instanceMethod yX0_become, Cond.selects RX0 yX0_become yX0_become, Cond.initialized RX0]
def wsX11_judge_r3 : List Cond := [Cond.code yX0_become cX0_become 2 none, Cond.fieldLink RX0 9 "WetSuitPedalsShoes$Athlete" "able" "[I", Cond.methodLink RX0 18 arraycopyName, Cond.fieldLink RX0 15 "WetSuitPedalsShoes$Athlete" "tries" "[I", Cond.methodLink RX11 168 yX10_run, Cond.instanceMethod yX10_run, Cond.selects RX10 yX10_run yX10_run, Cond.code yX10_run cX10_run 5 (some .int), Cond.fieldLink RX10 46 "WetSuitPedalsShoes$Athlete" "able" "[I", Cond.fieldLink RX10 49 "WetSuitPedalsShoes$Course" "many" "I", Cond.fieldLink RX10 52 "WetSuitPedalsShoes$Athlete" "tries" "[I", Cond.fieldLink RX10 29 "WetSuitPedalsShoes$Trial" "seconds" "[I", Cond.fieldLink RX10 65 "WetSuitPedalsShoes$Course" "kind" "[I", Cond.fieldLink RX10 68 "WetSuitPedalsShoes$Course" "length" "[I", Cond.methodLink RX10 75 Lib.Math.min.name, Cond.static Lib.Math.min.name, Cond.initialized "java/lang/Math", Cond.code Lib.Math.min.name Lib.Math.min.code 2 (some .int), Cond.fieldLink RX10 33 "WetSuitPedalsShoes$Trial" "legs" "[I", Cond.fieldLink RX10 36 "WetSuitPedalsShoes$Trial" "all" "[I", Cond.methodLink RX10 55 yX1_untried, Cond.instanceMethod yX1_untried, Cond.selects RX1 yX1_untried yX1_untried, Cond.code yX1_untried cX1_untried 6 (some .int)]
def wsX11_judge_r4 : List Cond := [Cond.fieldLink RX1 39 "WetSuitPedalsShoes$Athlete" "able" "[I", Cond.methodLink RX1 44 yX1_isBehindRide, Cond.instanceMethod yX1_isBehindRide, Cond.selects RX1 yX1_isBehindRide yX1_isBehindRide, Cond.code yX1_isBehindRide cX1_isBehindRide 2 (some .boolean), Cond.methodLink RX1 47 yX4_isRide, Cond.static yX4_isRide, Cond.initialized RX4, Cond.code yX4_isRide cX4_isRide 1 (some .boolean), Cond.methodLink RX10 59 yX4_secondsTrying, Cond.static yX4_secondsTrying, Cond.code yX4_secondsTrying cX4_secondsTrying 3 (some .int), Cond.methodLink RX10 71 yX4_legsBehind, Cond.static yX4_legsBehind, Cond.code yX4_legsBehind cX4_legsBehind 5 (some .int), Cond.methodLink RX4 15 Lib.Math.max.name, Cond.static Lib.Math.max.name, Cond.code Lib.Math.max.name Lib.Math.max.code 2 (some .int), Cond.methodLink RX4 21 Lib.Math.min.name, Cond.methodLink RX4 11 yX4_takes, Cond.static yX4_takes, Cond.code yX4_takes cX4_takes 1 (some .int), Cond.methodLink RX11 263 yX8_firstUnlike, Cond.instanceMethod yX8_firstUnlike]
def wsX11_judge_r5 : List Cond := [Cond.selects RX8 yX8_firstUnlike yX8_firstUnlike, Cond.initialized RX8, Cond.code yX8_firstUnlike cX8_firstUnlike 4 (some .int), Cond.fieldLink RX8 9 "WetSuitPedalsShoes$Row" "many" "I", Cond.fieldLink RX8 15 "WetSuitPedalsShoes$Row" "numbers" "[I", Cond.methodLink RX11 267 yX8_forget, Cond.instanceMethod yX8_forget, Cond.selects RX8 yX8_forget yX8_forget, Cond.code yX8_forget cX8_forget 2 (some .int)]
def wsX11_judge : List Cond := .code yX11_judge cX11_judge 3 (some .int) :: ((wsX11_judge_r1 ++ (wsX11_judge_r2 ++ (wsX11_judge_r3 ++ (wsX11_judge_r4 ++ wsX11_judge_r5)))) ++ wsX110 ++ wsX100 ++ wsX30 ++ wsX10 ++ wsX00 ++ wsX80)
def wsX11_clear : List Cond := .code yX11_clear cX11_clear 1 (some .int) :: ([.fieldLink RX11 33 "WetSuitPedalsShoes" "told" "LWetSuitPedalsShoes$Row;", .methodLink RX11 267 yX8_forget, .instanceMethod yX8_forget, .selects RX8 yX8_forget yX8_forget, .initialized RX8, .code yX8_forget cX8_forget 2 (some .int), .fieldLink RX8 9 "WetSuitPedalsShoes$Row" "many" "I"] ++ wsX110 ++ wsX80)
def wsX11_raceByLot_r1 : List Cond := [Cond.fieldLink RX11 10 "WetSuitPedalsShoes" "field" "LWetSuitPedalsShoes$Field;", Cond.fieldLink RX11 241 "WetSuitPedalsShoes$Field" "many" "I", Cond.fieldLink RX11 44 "WetSuitPedalsShoes" "trial" "LWetSuitPedalsShoes$Trial;", Cond.fieldLink RX11 93 "WetSuitPedalsShoes$Field" "course" "LWetSuitPedalsShoes$Course;", Cond.fieldLink RX11 118 "WetSuitPedalsShoes$Field" "athletes" "[LWetSuitPedalsShoes$Athlete;", Cond.fieldLink RX11 138 "WetSuitPedalsShoes$Course" "many" "I", Cond.fieldLink RX11 291 "WetSuitPedalsShoes$Trial" "who" "LWetSuitPedalsShoes$Athlete;", Cond.fieldLink RX11 127 "WetSuitPedalsShoes$Athlete" "tries" "[I", Cond.fieldLink RX11 68 "WetSuitPedalsShoes" "dice" "LWetSuitPedalsShoes$Lots;", Cond.fieldLink RX11 275 "WetSuitPedalsShoes$Lots" "finishOfFirst" "I", Cond.methodLink RX11 164 yX10_load, Cond.instanceMethod yX10_load, Cond.selects RX10 yX10_load yX10_load, Cond.initialized RX10, Cond.code yX10_load cX10_load 3 none, Cond.fieldLink RX10 12 "WetSuitPedalsShoes$Trial" "course" "LWetSuitPedalsShoes$Course;", Cond.fieldLink RX10 21 "WetSuitPedalsShoes$Trial" "who" "LWetSuitPedalsShoes$Athlete;", Cond.fieldLink RX10 25 "WetSuitPedalsShoes$Trial" "drinkBehind" "I", Cond.methodLink RX10 39 yX1_become, Cond.instanceMethod yX1_become, Cond.selects RX1 yX1_become yX1_become, Cond.initialized RX1, Cond.code yX1_become cX1_become 2 none, Cond.fieldLink RX1 9 "WetSuitPedalsShoes$Course" "many" "I"]
def wsX11_raceByLot_r2 : List Cond := [Cond.fieldLink RX1 15 "WetSuitPedalsShoes$Course" "kind" "[I", Cond.methodLink RX1 25 arraycopyName, Cond.native arraycopyName, Cond.static arraycopyName, Cond.initialized "java/lang/System", Cond.fieldLink RX1 19 "WetSuitPedalsShoes$Course" "figure" "[I", Cond.fieldLink RX1 22 "WetSuitPedalsShoes$Course" "length" "[I", Cond.methodLink RX10 43 yX0_become, Cond.instanceMethod yX0_become, Cond.selects RX0 yX0_become yX0_become, Cond.initialized RX0, Cond.code yX0_become cX0_become 2 none, Cond.fieldLink RX0 9 "WetSuitPedalsShoes$Athlete" "able" "[I", Cond.methodLink RX0 18 arraycopyName, Cond.fieldLink RX0 15 "WetSuitPedalsShoes$Athlete" "tries" "[I", Cond.methodLink RX11 308 yX5_below, Cond.instanceMethod yX5_below, Cond.selects RX5 yX5_below yX5_below, Cond.initialized RX5, Cond.code yX5_below cX5_below 2 (some .int), Cond.fieldLink RX5 7 "WetSuitPedalsShoes$Lots" "seed" "I", Cond.constant RX5 16 (1664525), Cond.constant RX5 17 (1013904223), Cond.constant RX5 18 (2147483647)]
def wsX11_raceByLot_r3 : List Cond := [Cond.methodLink RX11 168 yX10_run, Cond.instanceMethod yX10_run, Cond.selects RX10 yX10_run yX10_run, Cond.code yX10_run cX10_run 5 (some .int), Cond.fieldLink RX10 46 "WetSuitPedalsShoes$Athlete" "able" "[I", Cond.fieldLink RX10 49 "WetSuitPedalsShoes$Course" "many" "I", Cond.fieldLink RX10 52 "WetSuitPedalsShoes$Athlete" "tries" "[I", Cond.fieldLink RX10 29 "WetSuitPedalsShoes$Trial" "seconds" "[I", Cond.fieldLink RX10 65 "WetSuitPedalsShoes$Course" "kind" "[I", Cond.fieldLink RX10 68 "WetSuitPedalsShoes$Course" "length" "[I", Cond.methodLink RX10 75 Lib.Math.min.name, Cond.static Lib.Math.min.name, Cond.initialized "java/lang/Math", Cond.code Lib.Math.min.name Lib.Math.min.code 2 (some .int), Cond.fieldLink RX10 33 "WetSuitPedalsShoes$Trial" "legs" "[I", Cond.fieldLink RX10 36 "WetSuitPedalsShoes$Trial" "all" "[I", Cond.methodLink RX10 55 yX1_untried, Cond.instanceMethod yX1_untried, Cond.selects RX1 yX1_untried yX1_untried, Cond.code yX1_untried cX1_untried 6 (some .int), Cond.fieldLink RX1 39 "WetSuitPedalsShoes$Athlete" "able" "[I", Cond.methodLink RX1 44 yX1_isBehindRide, Cond.instanceMethod yX1_isBehindRide, Cond.selects RX1 yX1_isBehindRide yX1_isBehindRide]
def wsX11_raceByLot_r4 : List Cond := [Cond.code yX1_isBehindRide cX1_isBehindRide 2 (some .boolean), Cond.methodLink RX1 47 yX4_isRide, Cond.static yX4_isRide, Cond.initialized RX4, Cond.code yX4_isRide cX4_isRide 1 (some .boolean), Cond.methodLink RX10 59 yX4_secondsTrying, Cond.static yX4_secondsTrying, Cond.code yX4_secondsTrying cX4_secondsTrying 3 (some .int), Cond.methodLink RX10 71 yX4_legsBehind, Cond.static yX4_legsBehind, Cond.code yX4_legsBehind cX4_legsBehind 5 (some .int), Cond.methodLink RX4 15 Lib.Math.max.name, Cond.static Lib.Math.max.name, Cond.code Lib.Math.max.name Lib.Math.max.code 2 (some .int), Cond.methodLink RX4 21 Lib.Math.min.name, Cond.methodLink RX4 11 yX4_takes, Cond.static yX4_takes, Cond.code yX4_takes cX4_takes 1 (some .int)]
def wsX11_raceByLot : List Cond := .code yX11_raceByLot cX11_raceByLot 4 (some .boolean) :: ((wsX11_raceByLot_r1 ++ (wsX11_raceByLot_r2 ++ (wsX11_raceByLot_r3 ++ wsX11_raceByLot_r4))) ++ wsX110 ++ wsX30 ++ wsX10 ++ wsX100 ++ wsX00 ++ wsX50)
def wsX11_lots_r1 : List Cond := [Cond.fieldLink RX11 10 "WetSuitPedalsShoes" "field" "LWetSuitPedalsShoes$Field;", Cond.fieldLink RX11 241 "WetSuitPedalsShoes$Field" "many" "I", Cond.fieldLink RX11 68 "WetSuitPedalsShoes" "dice" "LWetSuitPedalsShoes$Lots;", Cond.fieldLink RX11 269 "WetSuitPedalsShoes$Lots" "seed" "I", Cond.fieldLink RX11 275 "WetSuitPedalsShoes$Lots" "finishOfFirst" "I", Cond.methodLink RX11 72 yX11_refuse, Cond.instanceMethod yX11_refuse, Cond.selects RX11 yX11_refuse yX11_refuse, Cond.initialized RX11, Cond.code yX11_refuse cX11_refuse 3 (some .int), Cond.fieldLink RX11 37 "WetSuitPedalsShoes" "refusals" "[I", Cond.methodLink RX11 272 yX11_raceByLot, Cond.instanceMethod yX11_raceByLot, Cond.selects RX11 yX11_raceByLot yX11_raceByLot, Cond.code yX11_raceByLot cX11_raceByLot 4 (some .boolean), Cond.fieldLink RX11 44 "WetSuitPedalsShoes" "trial" "LWetSuitPedalsShoes$Trial;", Cond.fieldLink RX11 93 "WetSuitPedalsShoes$Field" "course" "LWetSuitPedalsShoes$Course;", Cond.fieldLink RX11 118 "WetSuitPedalsShoes$Field" "athletes" "[LWetSuitPedalsShoes$Athlete;", Cond.fieldLink RX11 138 "WetSuitPedalsShoes$Course" "many" "I", Cond.fieldLink RX11 291 "WetSuitPedalsShoes$Trial" "who" "LWetSuitPedalsShoes$Athlete;", Cond.fieldLink RX11 127 "WetSuitPedalsShoes$Athlete" "tries" "[I", Cond.methodLink RX11 164 yX10_load, Cond.instanceMethod yX10_load, Cond.selects RX10 yX10_load yX10_load]
def wsX11_lots_r2 : List Cond := [Cond.initialized RX10, Cond.code yX10_load cX10_load 3 none, Cond.fieldLink RX10 12 "WetSuitPedalsShoes$Trial" "course" "LWetSuitPedalsShoes$Course;", Cond.fieldLink RX10 21 "WetSuitPedalsShoes$Trial" "who" "LWetSuitPedalsShoes$Athlete;", Cond.fieldLink RX10 25 "WetSuitPedalsShoes$Trial" "drinkBehind" "I", Cond.methodLink RX10 39 yX1_become, Cond.instanceMethod yX1_become, Cond.selects RX1 yX1_become yX1_become, Cond.initialized RX1, Cond.code yX1_become cX1_become 2 none, Cond.fieldLink RX1 9 "WetSuitPedalsShoes$Course" "many" "I", Cond.fieldLink RX1 15 "WetSuitPedalsShoes$Course" "kind" "[I", Cond.methodLink RX1 25 arraycopyName, Cond.native arraycopyName, Cond.static arraycopyName, Cond.initialized "java/lang/System", Cond.fieldLink RX1 19 "WetSuitPedalsShoes$Course" "figure" "[I", Cond.fieldLink RX1 22 "WetSuitPedalsShoes$Course" "length" "[I", Cond.methodLink RX10 43 yX0_become, Cond.instanceMethod yX0_become, Cond.selects RX0 yX0_become yX0_become, Cond.initialized RX0, Cond.code yX0_become cX0_become 2 none, Cond.fieldLink RX0 9 "WetSuitPedalsShoes$Athlete" "able" "[I"]
def wsX11_lots_r3 : List Cond := [Cond.methodLink RX0 18 arraycopyName, Cond.fieldLink RX0 15 "WetSuitPedalsShoes$Athlete" "tries" "[I", Cond.methodLink RX11 308 yX5_below, Cond.instanceMethod yX5_below, Cond.selects RX5 yX5_below yX5_below, Cond.initialized RX5, Cond.code yX5_below cX5_below 2 (some .int), Cond.fieldLink RX5 7 "WetSuitPedalsShoes$Lots" "seed" "I", Cond.constant RX5 16 (1664525), Cond.constant RX5 17 (1013904223), Cond.constant RX5 18 (2147483647), Cond.methodLink RX11 168 yX10_run, Cond.instanceMethod yX10_run, Cond.selects RX10 yX10_run yX10_run, Cond.code yX10_run cX10_run 5 (some .int), Cond.fieldLink RX10 46 "WetSuitPedalsShoes$Athlete" "able" "[I", Cond.fieldLink RX10 49 "WetSuitPedalsShoes$Course" "many" "I", Cond.fieldLink RX10 52 "WetSuitPedalsShoes$Athlete" "tries" "[I", Cond.fieldLink RX10 29 "WetSuitPedalsShoes$Trial" "seconds" "[I", Cond.fieldLink RX10 65 "WetSuitPedalsShoes$Course" "kind" "[I", Cond.fieldLink RX10 68 "WetSuitPedalsShoes$Course" "length" "[I", Cond.methodLink RX10 75 Lib.Math.min.name, Cond.static Lib.Math.min.name, Cond.initialized "java/lang/Math"]
def wsX11_lots_r4 : List Cond := [Cond.code Lib.Math.min.name Lib.Math.min.code 2 (some .int), Cond.fieldLink RX10 33 "WetSuitPedalsShoes$Trial" "legs" "[I", Cond.fieldLink RX10 36 "WetSuitPedalsShoes$Trial" "all" "[I", Cond.methodLink RX10 55 yX1_untried, Cond.instanceMethod yX1_untried, Cond.selects RX1 yX1_untried yX1_untried, Cond.code yX1_untried cX1_untried 6 (some .int), Cond.fieldLink RX1 39 "WetSuitPedalsShoes$Athlete" "able" "[I", Cond.methodLink RX1 44 yX1_isBehindRide, Cond.instanceMethod yX1_isBehindRide, Cond.selects RX1 yX1_isBehindRide yX1_isBehindRide, Cond.code yX1_isBehindRide cX1_isBehindRide 2 (some .boolean), Cond.methodLink RX1 47 yX4_isRide, Cond.static yX4_isRide, Cond.initialized RX4, Cond.code yX4_isRide cX4_isRide 1 (some .boolean), Cond.methodLink RX10 59 yX4_secondsTrying, Cond.static yX4_secondsTrying, Cond.code yX4_secondsTrying cX4_secondsTrying 3 (some .int), Cond.methodLink RX10 71 yX4_legsBehind, Cond.static yX4_legsBehind, Cond.code yX4_legsBehind cX4_legsBehind 5 (some .int), Cond.methodLink RX4 15 Lib.Math.max.name, Cond.static Lib.Math.max.name]
def wsX11_lots_r5 : List Cond := [Cond.code Lib.Math.max.name Lib.Math.max.code 2 (some .int), Cond.methodLink RX4 21 Lib.Math.min.name, Cond.methodLink RX4 11 yX4_takes, Cond.static yX4_takes, Cond.code yX4_takes cX4_takes 1 (some .int)]
def wsX11_lots : List Cond := .code yX11_lots cX11_lots 7 (some .int) :: ((wsX11_lots_r1 ++ (wsX11_lots_r2 ++ (wsX11_lots_r3 ++ (wsX11_lots_r4 ++ wsX11_lots_r5)))) ++ wsX110 ++ wsX30 ++ wsX50 ++ wsX10 ++ wsX100 ++ wsX00)
def wsX11_image_r1 : List Cond := [Cond.fieldLink RX11 16 "WetSuitPedalsShoes" "kept" "LWetSuitPedalsShoes$Field;", Cond.fieldLink RX11 10 "WetSuitPedalsShoes" "field" "LWetSuitPedalsShoes$Field;", Cond.fieldLink RX11 19 "WetSuitPedalsShoes" "imageTaken" "Z", Cond.fieldLink RX11 93 "WetSuitPedalsShoes$Field" "course" "LWetSuitPedalsShoes$Course;", Cond.fieldLink RX11 138 "WetSuitPedalsShoes$Course" "many" "I", Cond.methodLink RX11 278 yX3_become, Cond.instanceMethod yX3_become, Cond.selects RX3 yX3_become yX3_become, Cond.initialized RX3, Cond.code yX3_become cX3_become 3 none, Cond.fieldLink RX3 12 "WetSuitPedalsShoes$Field" "course" "LWetSuitPedalsShoes$Course;", Cond.fieldLink RX3 24 "WetSuitPedalsShoes$Field" "many" "I", Cond.fieldLink RX3 20 "WetSuitPedalsShoes$Field" "athletes" "[LWetSuitPedalsShoes$Athlete;", Cond.methodLink RX3 41 yX1_become, Cond.instanceMethod yX1_become, Cond.selects RX1 yX1_become yX1_become, Cond.initialized RX1, Cond.code yX1_become cX1_become 2 none, Cond.fieldLink RX1 9 "WetSuitPedalsShoes$Course" "many" "I", Cond.fieldLink RX1 15 "WetSuitPedalsShoes$Course" "kind" "[I", Cond.methodLink RX1 25 arraycopyName, Cond.native arraycopyName, Cond.static arraycopyName, Cond.initialized "java/lang/System"]
def wsX11_image_r2 : List Cond := [Cond.fieldLink RX1 19 "WetSuitPedalsShoes$Course" "figure" "[I", Cond.fieldLink RX1 22 "WetSuitPedalsShoes$Course" "length" "[I", Cond.methodLink RX3 45 yX0_become, Cond.instanceMethod yX0_become, Cond.selects RX0 yX0_become yX0_become, Cond.initialized RX0, Cond.code yX0_become cX0_become 2 none, Cond.fieldLink RX0 9 "WetSuitPedalsShoes$Athlete" "able" "[I", Cond.methodLink RX0 18 arraycopyName, Cond.fieldLink RX0 15 "WetSuitPedalsShoes$Athlete" "tries" "[I"]
def wsX11_image : List Cond := .code yX11_image cX11_image 1 (some .int) :: ((wsX11_image_r1 ++ wsX11_image_r2) ++ wsX110 ++ wsX30 ++ wsX10 ++ wsX00)
def wsX11_on_r1 : List Cond := [Cond.fieldLink RX11 19 "WetSuitPedalsShoes" "imageTaken" "Z", Cond.fieldLink RX11 10 "WetSuitPedalsShoes" "field" "LWetSuitPedalsShoes$Field;", Cond.fieldLink RX11 16 "WetSuitPedalsShoes" "kept" "LWetSuitPedalsShoes$Field;", Cond.fieldLink RX11 93 "WetSuitPedalsShoes$Field" "course" "LWetSuitPedalsShoes$Course;", Cond.fieldLink RX11 138 "WetSuitPedalsShoes$Course" "many" "I", Cond.methodLink RX11 72 yX11_refuse, Cond.instanceMethod yX11_refuse, Cond.selects RX11 yX11_refuse yX11_refuse, Cond.initialized RX11, Cond.code yX11_refuse cX11_refuse 3 (some .int), Cond.fieldLink RX11 37 "WetSuitPedalsShoes" "refusals" "[I", Cond.methodLink RX11 278 yX3_become, Cond.instanceMethod yX3_become, Cond.selects RX3 yX3_become yX3_become, Cond.initialized RX3, Cond.code yX3_become cX3_become 3 none, Cond.fieldLink RX3 12 "WetSuitPedalsShoes$Field" "course" "LWetSuitPedalsShoes$Course;", Cond.fieldLink RX3 24 "WetSuitPedalsShoes$Field" "many" "I", Cond.fieldLink RX3 20 "WetSuitPedalsShoes$Field" "athletes" "[LWetSuitPedalsShoes$Athlete;", Cond.methodLink RX3 41 yX1_become, Cond.instanceMethod yX1_become, Cond.selects RX1 yX1_become yX1_become, Cond.initialized RX1, Cond.code yX1_become cX1_become 2 none]
def wsX11_on_r2 : List Cond := [Cond.fieldLink RX1 9 "WetSuitPedalsShoes$Course" "many" "I", Cond.fieldLink RX1 15 "WetSuitPedalsShoes$Course" "kind" "[I", Cond.methodLink RX1 25 arraycopyName, Cond.native arraycopyName, Cond.static arraycopyName, Cond.initialized "java/lang/System", Cond.fieldLink RX1 19 "WetSuitPedalsShoes$Course" "figure" "[I", Cond.fieldLink RX1 22 "WetSuitPedalsShoes$Course" "length" "[I", Cond.methodLink RX3 45 yX0_become, Cond.instanceMethod yX0_become, Cond.selects RX0 yX0_become yX0_become, Cond.initialized RX0, Cond.code yX0_become cX0_become 2 none, Cond.fieldLink RX0 9 "WetSuitPedalsShoes$Athlete" "able" "[I", Cond.methodLink RX0 18 arraycopyName, Cond.fieldLink RX0 15 "WetSuitPedalsShoes$Athlete" "tries" "[I"]
def wsX11_on : List Cond := .code yX11_on cX11_on 1 (some .int) :: ((wsX11_on_r1 ++ wsX11_on_r2) ++ wsX110 ++ wsX30 ++ wsX10 ++ wsX00)
def wsX11_count_r1 : List Cond := [Cond.fieldLink RX11 10 "WetSuitPedalsShoes" "field" "LWetSuitPedalsShoes$Field;", Cond.fieldLink RX11 93 "WetSuitPedalsShoes$Field" "course" "LWetSuitPedalsShoes$Course;", Cond.fieldLink RX11 138 "WetSuitPedalsShoes$Course" "many" "I", Cond.fieldLink RX11 241 "WetSuitPedalsShoes$Field" "many" "I", Cond.fieldLink RX11 33 "WetSuitPedalsShoes" "told" "LWetSuitPedalsShoes$Row;", Cond.fieldLink RX11 254 "WetSuitPedalsShoes$Row" "many" "I", Cond.fieldLink RX11 26 "WetSuitPedalsShoes" "text" "LWetSuitPedalsShoes$Text;", Cond.fieldLink RX11 290 "WetSuitPedalsShoes$Text" "many" "I", Cond.fieldLink RX11 37 "WetSuitPedalsShoes" "refusals" "[I", Cond.methodLink RX11 281 yX1_lengths, Cond.instanceMethod yX1_lengths, Cond.selects RX1 yX1_lengths yX1_lengths, Cond.initialized RX1, Cond.code yX1_lengths cX1_lengths 3 (some .int), Cond.fieldLink RX1 9 "WetSuitPedalsShoes$Course" "many" "I", Cond.fieldLink RX1 22 "WetSuitPedalsShoes$Course" "length" "[I", Cond.methodLink RX11 284 yX1_changes, Cond.instanceMethod yX1_changes, Cond.selects RX1 yX1_changes yX1_changes, Cond.code yX1_changes cX1_changes 3 (some .int), Cond.fieldLink RX1 15 "WetSuitPedalsShoes$Course" "kind" "[I", Cond.methodLink RX11 224 yX1_rides, Cond.instanceMethod yX1_rides, Cond.selects RX1 yX1_rides yX1_rides]
def wsX11_count_r2 : List Cond := [Cond.code yX1_rides cX1_rides 3 (some .int), Cond.methodLink RX1 47 yX4_isRide, Cond.static yX4_isRide, Cond.initialized RX4, Cond.code yX4_isRide cX4_isRide 1 (some .boolean), Cond.methodLink RX11 287 yX3_allTries, Cond.instanceMethod yX3_allTries, Cond.selects RX3 yX3_allTries yX3_allTries, Cond.initialized RX3, Cond.code yX3_allTries cX3_allTries 4 (some .int), Cond.fieldLink RX3 24 "WetSuitPedalsShoes$Field" "many" "I", Cond.fieldLink RX3 12 "WetSuitPedalsShoes$Field" "course" "LWetSuitPedalsShoes$Course;", Cond.fieldLink RX3 48 "WetSuitPedalsShoes$Course" "many" "I", Cond.fieldLink RX3 20 "WetSuitPedalsShoes$Field" "athletes" "[LWetSuitPedalsShoes$Athlete;", Cond.fieldLink RX3 37 "WetSuitPedalsShoes$Athlete" "tries" "[I"]
def wsX11_count : List Cond := .code yX11_count cX11_count 2 (some .int) :: ((wsX11_count_r1 ++ wsX11_count_r2) ++ wsX110 ++ wsX30 ++ wsX10 ++ wsX80 ++ wsX90 ++ wsX00)
def wsX12_init : List Cond := .code yX12_init cX12_init 2 none :: ([.methodLink RX12 1 objectInit, .instanceMethod objectInit, .code objectInit ⟨#[0xb1]⟩ 1 none, .arrayClass .int, .fieldLink RX12 9 "WetSuitPedalsShoesModel" "s" "[I", .fieldLink RX12 13 "WetSuitPedalsShoesModel" "m" "[I", .fieldLink RX12 16 "WetSuitPedalsShoesModel" "image" "[I", .fieldLink RX12 19 "WetSuitPedalsShoesModel" "was" "[I", .fieldLink RX12 22 "WetSuitPedalsShoesModel" "letters" "[I", .fieldLink RX12 25 "WetSuitPedalsShoesModel" "row" "[I", .fieldLink RX12 28 "WetSuitPedalsShoesModel" "refused" "[I", .fieldLink RX12 31 "WetSuitPedalsShoesModel" "seconds" "[I", .fieldLink RX12 34 "WetSuitPedalsShoesModel" "legs" "[I", .fieldLink RX12 37 "WetSuitPedalsShoesModel" "sums" "[I", .fieldLink RX12 40 "WetSuitPedalsShoesModel" "numbers" "[I", .fieldLink RX12 43 "WetSuitPedalsShoesModel" "own" "[I", .fieldLink RX12 46 "WetSuitPedalsShoesModel" "fewest" "[I", .fieldLink RX12 49 "WetSuitPedalsShoesModel" "so" "[I", .fieldLink RX12 52 "WetSuitPedalsShoesModel" "then" "[I"] ++ wsX120)
def wsX12_isIn : List Cond := .code yX12_isIn cX12_isIn 3 (some .boolean) :: ([])
def wsX12_least : List Cond := .code yX12_least cX12_least 2 (some .int) :: ([])
def wsX12_most : List Cond := .code yX12_most cX12_most 2 (some .int) :: ([])
def wsX12_lays : List Cond := .code yX12_lays cX12_lays 3 none :: ([])
def wsX12_no : List Cond := .code yX12_no cX12_no 2 (some .int) :: ([.fieldLink RX12 28 "WetSuitPedalsShoesModel" "refused" "[I"] ++ wsX120)
def wsX12_noFar : List Cond := .code yX12_noFar cX12_noFar 2 (some .int) :: ([.constant RX12 55 (1000000000), .methodLink RX12 56 yX12_no, .instanceMethod yX12_no, .selects RX12 yX12_no yX12_no, .initialized RX12, .code yX12_no cX12_no 2 (some .int), .fieldLink RX12 28 "WetSuitPedalsShoesModel" "refused" "[I"] ++ wsX120)
def wsX12_noWide : List Cond := .code yX12_noWide cX12_noWide 2 (some .long) :: ([.constantLong RX12 60 (4000000000000000000), .methodLink RX12 56 yX12_no, .instanceMethod yX12_no, .selects RX12 yX12_no yX12_no, .initialized RX12, .code yX12_no cX12_no 2 (some .int), .fieldLink RX12 28 "WetSuitPedalsShoesModel" "refused" "[I"] ++ wsX120)
def wsX12_of : List Cond := .code yX12_of cX12_of 2 (some .int) :: ([])
def wsX12_athleteAt : List Cond := .code yX12_athleteAt cX12_athleteAt 2 (some .int) :: ([])
def wsX12_tried : List Cond := .code yX12_tried cX12_tried 2 (some .int) :: ([])
def wsX12_isSection : List Cond := .code yX12_isSection cX12_isSection 2 (some .boolean) :: ([.fieldLink RX12 9 "WetSuitPedalsShoesModel" "s" "[I", .methodLink RX12 62 yX12_isIn, .static yX12_isIn, .initialized RX12, .code yX12_isIn cX12_isIn 3 (some .boolean)] ++ wsX120)
def wsX12_isAthlete : List Cond := .code yX12_isAthlete cX12_isAthlete 2 (some .boolean) :: ([.fieldLink RX12 9 "WetSuitPedalsShoesModel" "s" "[I", .methodLink RX12 62 yX12_isIn, .static yX12_isIn, .initialized RX12, .code yX12_isIn cX12_isIn 3 (some .boolean)] ++ wsX120)
def wsX12_isRide : List Cond := .code yX12_isRide cX12_isRide 2 (some .boolean) :: ([.methodLink RX12 66 yX12_of, .static yX12_of, .initialized RX12, .code yX12_of cX12_of 2 (some .int), .methodLink RX12 62 yX12_isIn, .static yX12_isIn, .code yX12_isIn cX12_isIn 3 (some .boolean)])
def wsX12_takes : List Cond := .code yX12_takes cX12_takes 3 (some .int) :: ([.methodLink RX12 66 yX12_of, .static yX12_of, .initialized RX12, .code yX12_of cX12_of 2 (some .int)])
def wsX12_plain : List Cond := .code yX12_plain cX12_plain 7 (some .int) :: ([.methodLink RX12 66 yX12_of, .static yX12_of, .initialized RX12, .code yX12_of cX12_of 2 (some .int), .methodLink RX12 70 yX12_athleteAt, .static yX12_athleteAt, .code yX12_athleteAt cX12_athleteAt 2 (some .int), .methodLink RX12 73 yX12_isRide, .static yX12_isRide, .code yX12_isRide cX12_isRide 2 (some .boolean), .methodLink RX12 62 yX12_isIn, .static yX12_isIn, .code yX12_isIn cX12_isIn 3 (some .boolean)])
def wsX12_secondsBy : List Cond := .code yX12_secondsBy cX12_secondsBy 6 (some .int) :: ([.methodLink RX12 77 yX12_plain, .static yX12_plain, .initialized RX12, .code yX12_plain cX12_plain 7 (some .int), .methodLink RX12 66 yX12_of, .static yX12_of, .code yX12_of cX12_of 2 (some .int), .methodLink RX12 70 yX12_athleteAt, .static yX12_athleteAt, .code yX12_athleteAt cX12_athleteAt 2 (some .int), .methodLink RX12 73 yX12_isRide, .static yX12_isRide, .code yX12_isRide cX12_isRide 2 (some .boolean), .methodLink RX12 62 yX12_isIn, .static yX12_isIn, .code yX12_isIn cX12_isIn 3 (some .boolean)])
def wsX12_legsBehind : List Cond := .code yX12_legsBehind cX12_legsBehind 5 (some .int) :: ([.methodLink RX12 81 yX12_takes, .static yX12_takes, .initialized RX12, .code yX12_takes cX12_takes 3 (some .int), .methodLink RX12 66 yX12_of, .static yX12_of, .code yX12_of cX12_of 2 (some .int), .methodLink RX12 85 yX12_most, .static yX12_most, .code yX12_most cX12_most 2 (some .int), .methodLink RX12 88 yX12_least, .static yX12_least, .code yX12_least cX12_least 2 (some .int)])
def wsX12_goes_r1 : List Cond := [Cond.fieldLink RX12 31 "WetSuitPedalsShoesModel" "seconds" "[I", Cond.fieldLink RX12 34 "WetSuitPedalsShoesModel" "legs" "[I", Cond.fieldLink RX12 37 "WetSuitPedalsShoesModel" "sums" "[I", Cond.methodLink RX12 70 yX12_athleteAt, Cond.static yX12_athleteAt, Cond.initialized RX12, Cond.code yX12_athleteAt cX12_athleteAt 2 (some .int), Cond.methodLink RX12 91 yX12_tried, Cond.static yX12_tried, Cond.code yX12_tried cX12_tried 2 (some .int), Cond.methodLink RX12 94 yX12_secondsBy, Cond.static yX12_secondsBy, Cond.code yX12_secondsBy cX12_secondsBy 6 (some .int), Cond.methodLink RX12 77 yX12_plain, Cond.static yX12_plain, Cond.code yX12_plain cX12_plain 7 (some .int), Cond.methodLink RX12 66 yX12_of, Cond.static yX12_of, Cond.code yX12_of cX12_of 2 (some .int), Cond.methodLink RX12 73 yX12_isRide, Cond.static yX12_isRide, Cond.code yX12_isRide cX12_isRide 2 (some .boolean), Cond.methodLink RX12 62 yX12_isIn, Cond.static yX12_isIn]
def wsX12_goes_r2 : List Cond := [Cond.code yX12_isIn cX12_isIn 3 (some .boolean), Cond.methodLink RX12 98 yX12_legsBehind, Cond.static yX12_legsBehind, Cond.code yX12_legsBehind cX12_legsBehind 5 (some .int), Cond.methodLink RX12 81 yX12_takes, Cond.static yX12_takes, Cond.code yX12_takes cX12_takes 3 (some .int), Cond.methodLink RX12 85 yX12_most, Cond.static yX12_most, Cond.code yX12_most cX12_most 2 (some .int), Cond.methodLink RX12 88 yX12_least, Cond.static yX12_least, Cond.code yX12_least cX12_least 2 (some .int)]
def wsX12_goes : List Cond := .code yX12_goes cX12_goes 7 (some .int) :: ((wsX12_goes_r1 ++ wsX12_goes_r2) ++ wsX120)
def wsX12_finishOf_r1 : List Cond := [Cond.methodLink RX12 102 yX12_goes, Cond.instanceMethod yX12_goes, Cond.selects RX12 yX12_goes yX12_goes, Cond.initialized RX12, Cond.code yX12_goes cX12_goes 7 (some .int), Cond.fieldLink RX12 31 "WetSuitPedalsShoesModel" "seconds" "[I", Cond.fieldLink RX12 34 "WetSuitPedalsShoesModel" "legs" "[I", Cond.fieldLink RX12 37 "WetSuitPedalsShoesModel" "sums" "[I", Cond.methodLink RX12 70 yX12_athleteAt, Cond.static yX12_athleteAt, Cond.code yX12_athleteAt cX12_athleteAt 2 (some .int), Cond.methodLink RX12 91 yX12_tried, Cond.static yX12_tried, Cond.code yX12_tried cX12_tried 2 (some .int), Cond.methodLink RX12 94 yX12_secondsBy, Cond.static yX12_secondsBy, Cond.code yX12_secondsBy cX12_secondsBy 6 (some .int), Cond.methodLink RX12 77 yX12_plain, Cond.static yX12_plain, Cond.code yX12_plain cX12_plain 7 (some .int), Cond.methodLink RX12 66 yX12_of, Cond.static yX12_of, Cond.code yX12_of cX12_of 2 (some .int), Cond.methodLink RX12 73 yX12_isRide]
def wsX12_finishOf_r2 : List Cond := [Cond.static yX12_isRide, Cond.code yX12_isRide cX12_isRide 2 (some .boolean), Cond.methodLink RX12 62 yX12_isIn, Cond.static yX12_isIn, Cond.code yX12_isIn cX12_isIn 3 (some .boolean), Cond.methodLink RX12 98 yX12_legsBehind, Cond.static yX12_legsBehind, Cond.code yX12_legsBehind cX12_legsBehind 5 (some .int), Cond.methodLink RX12 81 yX12_takes, Cond.static yX12_takes, Cond.code yX12_takes cX12_takes 3 (some .int), Cond.methodLink RX12 85 yX12_most, Cond.static yX12_most, Cond.code yX12_most cX12_most 2 (some .int), Cond.methodLink RX12 88 yX12_least, Cond.static yX12_least, Cond.code yX12_least cX12_least 2 (some .int)]
def wsX12_finishOf : List Cond := .code yX12_finishOf cX12_finishOf 3 (some .int) :: ((wsX12_finishOf_r1 ++ wsX12_finishOf_r2) ++ wsX120)
def wsX12_letter : List Cond := .code yX12_letter cX12_letter 2 (some .int) :: ([.fieldLink RX12 105 "WetSuitPedalsShoesModel" "letterMany" "I", .fieldLink RX12 22 "WetSuitPedalsShoesModel" "letters" "[I", .methodLink RX12 56 yX12_no, .instanceMethod yX12_no, .selects RX12 yX12_no yX12_no, .initialized RX12, .code yX12_no cX12_no 2 (some .int), .fieldLink RX12 28 "WetSuitPedalsShoesModel" "refused" "[I"] ++ wsX120)
def wsX12_here : List Cond := .code yX12_here cX12_here 1 (some .int) :: ([.fieldLink RX12 109 "WetSuitPedalsShoesModel" "place" "I", .fieldLink RX12 105 "WetSuitPedalsShoesModel" "letterMany" "I", .fieldLink RX12 22 "WetSuitPedalsShoesModel" "letters" "[I"] ++ wsX120)
def wsX12_readsDigit : List Cond := .code yX12_readsDigit cX12_readsDigit 1 (some .boolean) :: ([.fieldLink RX12 40 "WetSuitPedalsShoesModel" "numbers" "[I", .fieldLink RX12 116 "WetSuitPedalsShoesModel" "numbersMany" "I", .fieldLink RX12 109 "WetSuitPedalsShoesModel" "place" "I", .methodLink RX12 112 yX12_here, .instanceMethod yX12_here, .selects RX12 yX12_here yX12_here, .initialized RX12, .code yX12_here cX12_here 1 (some .int), .fieldLink RX12 105 "WetSuitPedalsShoesModel" "letterMany" "I", .fieldLink RX12 22 "WetSuitPedalsShoesModel" "letters" "[I", .methodLink RX12 62 yX12_isIn, .static yX12_isIn, .code yX12_isIn cX12_isIn 3 (some .boolean)] ++ wsX120)
def wsX12_readsDigits : List Cond := .code yX12_readsDigits cX12_readsDigits 4 (some .boolean) :: ([.methodLink RX12 119 yX12_readsDigit, .instanceMethod yX12_readsDigit, .selects RX12 yX12_readsDigit yX12_readsDigit, .initialized RX12, .code yX12_readsDigit cX12_readsDigit 1 (some .boolean), .fieldLink RX12 40 "WetSuitPedalsShoesModel" "numbers" "[I", .fieldLink RX12 116 "WetSuitPedalsShoesModel" "numbersMany" "I", .fieldLink RX12 109 "WetSuitPedalsShoesModel" "place" "I", .methodLink RX12 112 yX12_here, .instanceMethod yX12_here, .selects RX12 yX12_here yX12_here, .code yX12_here cX12_here 1 (some .int), .fieldLink RX12 105 "WetSuitPedalsShoesModel" "letterMany" "I", .fieldLink RX12 22 "WetSuitPedalsShoesModel" "letters" "[I", .methodLink RX12 62 yX12_isIn, .static yX12_isIn, .code yX12_isIn cX12_isIn 3 (some .boolean)] ++ wsX120)
def wsX12_kindBy : List Cond := .code yX12_kindBy cX12_kindBy 1 (some .int) :: ([])
def wsX12_readsKind : List Cond := .code yX12_readsKind cX12_readsKind 2 (some .boolean) :: ([.fieldLink RX12 40 "WetSuitPedalsShoesModel" "numbers" "[I", .fieldLink RX12 116 "WetSuitPedalsShoesModel" "numbersMany" "I", .fieldLink RX12 109 "WetSuitPedalsShoesModel" "place" "I", .methodLink RX12 112 yX12_here, .instanceMethod yX12_here, .selects RX12 yX12_here yX12_here, .initialized RX12, .code yX12_here cX12_here 1 (some .int), .fieldLink RX12 105 "WetSuitPedalsShoesModel" "letterMany" "I", .fieldLink RX12 22 "WetSuitPedalsShoesModel" "letters" "[I", .methodLink RX12 123 yX12_kindBy, .static yX12_kindBy, .code yX12_kindBy cX12_kindBy 1 (some .int)] ++ wsX120)
def wsX12_readsPlan : List Cond := .code yX12_readsPlan cX12_readsPlan 2 (some .boolean) :: ([.methodLink RX12 126 yX12_readsDigits, .instanceMethod yX12_readsDigits, .selects RX12 yX12_readsDigits yX12_readsDigits, .initialized RX12, .code yX12_readsDigits cX12_readsDigits 4 (some .boolean), .methodLink RX12 119 yX12_readsDigit, .instanceMethod yX12_readsDigit, .selects RX12 yX12_readsDigit yX12_readsDigit, .code yX12_readsDigit cX12_readsDigit 1 (some .boolean), .fieldLink RX12 40 "WetSuitPedalsShoesModel" "numbers" "[I", .fieldLink RX12 116 "WetSuitPedalsShoesModel" "numbersMany" "I", .fieldLink RX12 109 "WetSuitPedalsShoesModel" "place" "I", .methodLink RX12 112 yX12_here, .instanceMethod yX12_here, .selects RX12 yX12_here yX12_here, .code yX12_here cX12_here 1 (some .int), .fieldLink RX12 105 "WetSuitPedalsShoesModel" "letterMany" "I", .fieldLink RX12 22 "WetSuitPedalsShoesModel" "letters" "[I", .methodLink RX12 62 yX12_isIn, .static yX12_isIn, .code yX12_isIn cX12_isIn 3 (some .boolean)] ++ wsX120)
def wsX12_readsStatement_r1 : List Cond := [Cond.fieldLink RX12 109 "WetSuitPedalsShoesModel" "place" "I", Cond.fieldLink RX12 116 "WetSuitPedalsShoesModel" "numbersMany" "I", Cond.methodLink RX12 112 yX12_here, Cond.instanceMethod yX12_here, Cond.selects RX12 yX12_here yX12_here, Cond.initialized RX12, Cond.code yX12_here cX12_here 1 (some .int), Cond.fieldLink RX12 105 "WetSuitPedalsShoesModel" "letterMany" "I", Cond.fieldLink RX12 22 "WetSuitPedalsShoesModel" "letters" "[I", Cond.methodLink RX12 130 yX12_readsKind, Cond.instanceMethod yX12_readsKind, Cond.selects RX12 yX12_readsKind yX12_readsKind, Cond.code yX12_readsKind cX12_readsKind 2 (some .boolean), Cond.fieldLink RX12 40 "WetSuitPedalsShoesModel" "numbers" "[I", Cond.methodLink RX12 123 yX12_kindBy, Cond.static yX12_kindBy, Cond.code yX12_kindBy cX12_kindBy 1 (some .int), Cond.methodLink RX12 126 yX12_readsDigits, Cond.instanceMethod yX12_readsDigits, Cond.selects RX12 yX12_readsDigits yX12_readsDigits, Cond.code yX12_readsDigits cX12_readsDigits 4 (some .boolean), Cond.methodLink RX12 119 yX12_readsDigit, Cond.instanceMethod yX12_readsDigit, Cond.selects RX12 yX12_readsDigit yX12_readsDigit]
def wsX12_readsStatement_r2 : List Cond := [Cond.code yX12_readsDigit cX12_readsDigit 1 (some .boolean), Cond.methodLink RX12 62 yX12_isIn, Cond.static yX12_isIn, Cond.code yX12_isIn cX12_isIn 3 (some .boolean), Cond.methodLink RX12 133 yX12_readsPlan, Cond.instanceMethod yX12_readsPlan, Cond.selects RX12 yX12_readsPlan yX12_readsPlan, Cond.code yX12_readsPlan cX12_readsPlan 2 (some .boolean)]
def wsX12_readsStatement : List Cond := .code yX12_readsStatement cX12_readsStatement 3 (some .boolean) :: ((wsX12_readsStatement_r1 ++ wsX12_readsStatement_r2) ++ wsX120)
def wsX12_changes : List Cond := .code yX12_changes cX12_changes 6 none :: ([.methodLink RX12 66 yX12_of, .static yX12_of, .initialized RX12, .code yX12_of cX12_of 2 (some .int)])
def wsX12_isDone_r1 : List Cond := [Cond.fieldLink RX12 40 "WetSuitPedalsShoesModel" "numbers" "[I", Cond.fieldLink RX12 9 "WetSuitPedalsShoesModel" "s" "[I", Cond.fieldLink RX12 116 "WetSuitPedalsShoesModel" "numbersMany" "I", Cond.methodLink RX12 66 yX12_of, Cond.static yX12_of, Cond.initialized RX12, Cond.code yX12_of cX12_of 2 (some .int), Cond.methodLink RX12 70 yX12_athleteAt, Cond.static yX12_athleteAt, Cond.code yX12_athleteAt cX12_athleteAt 2 (some .int), Cond.methodLink RX12 91 yX12_tried, Cond.static yX12_tried, Cond.code yX12_tried cX12_tried 2 (some .int), Cond.methodLink RX12 136 yX12_isAthlete, Cond.instanceMethod yX12_isAthlete, Cond.selects RX12 yX12_isAthlete yX12_isAthlete, Cond.code yX12_isAthlete cX12_isAthlete 2 (some .boolean), Cond.methodLink RX12 62 yX12_isIn, Cond.static yX12_isIn, Cond.code yX12_isIn cX12_isIn 3 (some .boolean), Cond.methodLink RX12 139 yX12_isSection, Cond.instanceMethod yX12_isSection, Cond.selects RX12 yX12_isSection yX12_isSection, Cond.code yX12_isSection cX12_isSection 2 (some .boolean)]
def wsX12_isDone_r2 : List Cond := [Cond.methodLink RX12 142 yX12_changes, Cond.instanceMethod yX12_changes, Cond.selects RX12 yX12_changes yX12_changes, Cond.code yX12_changes cX12_changes 6 none]
def wsX12_isDone : List Cond := .code yX12_isDone cX12_isDone 5 (some .boolean) :: ((wsX12_isDone_r1 ++ wsX12_isDone_r2) ++ wsX120)
def wsX12_race_r1 : List Cond := [Cond.fieldLink RX12 109 "WetSuitPedalsShoesModel" "place" "I", Cond.fieldLink RX12 105 "WetSuitPedalsShoesModel" "letterMany" "I", Cond.fieldLink RX12 9 "WetSuitPedalsShoesModel" "s" "[I", Cond.fieldLink RX12 19 "WetSuitPedalsShoesModel" "was" "[I", Cond.methodLink RX12 146 yX12_readsStatement, Cond.instanceMethod yX12_readsStatement, Cond.selects RX12 yX12_readsStatement yX12_readsStatement, Cond.initialized RX12, Cond.code yX12_readsStatement cX12_readsStatement 3 (some .boolean), Cond.fieldLink RX12 116 "WetSuitPedalsShoesModel" "numbersMany" "I", Cond.methodLink RX12 112 yX12_here, Cond.instanceMethod yX12_here, Cond.selects RX12 yX12_here yX12_here, Cond.code yX12_here cX12_here 1 (some .int), Cond.fieldLink RX12 22 "WetSuitPedalsShoesModel" "letters" "[I", Cond.methodLink RX12 130 yX12_readsKind, Cond.instanceMethod yX12_readsKind, Cond.selects RX12 yX12_readsKind yX12_readsKind, Cond.code yX12_readsKind cX12_readsKind 2 (some .boolean), Cond.fieldLink RX12 40 "WetSuitPedalsShoesModel" "numbers" "[I", Cond.methodLink RX12 123 yX12_kindBy, Cond.static yX12_kindBy, Cond.code yX12_kindBy cX12_kindBy 1 (some .int), Cond.methodLink RX12 126 yX12_readsDigits]
def wsX12_race_r2 : List Cond := [Cond.instanceMethod yX12_readsDigits, Cond.selects RX12 yX12_readsDigits yX12_readsDigits, Cond.code yX12_readsDigits cX12_readsDigits 4 (some .boolean), Cond.methodLink RX12 119 yX12_readsDigit, Cond.instanceMethod yX12_readsDigit, Cond.selects RX12 yX12_readsDigit yX12_readsDigit, Cond.code yX12_readsDigit cX12_readsDigit 1 (some .boolean), Cond.methodLink RX12 62 yX12_isIn, Cond.static yX12_isIn, Cond.code yX12_isIn cX12_isIn 3 (some .boolean), Cond.methodLink RX12 133 yX12_readsPlan, Cond.instanceMethod yX12_readsPlan, Cond.selects RX12 yX12_readsPlan yX12_readsPlan, Cond.code yX12_readsPlan cX12_readsPlan 2 (some .boolean), Cond.methodLink RX12 149 yX12_lays, Cond.static yX12_lays, Cond.code yX12_lays cX12_lays 3 none, Cond.methodLink RX12 153 yX12_isDone, Cond.instanceMethod yX12_isDone, Cond.selects RX12 yX12_isDone yX12_isDone, Cond.code yX12_isDone cX12_isDone 5 (some .boolean), Cond.methodLink RX12 66 yX12_of, Cond.static yX12_of, Cond.code yX12_of cX12_of 2 (some .int)]
def wsX12_race_r3 : List Cond := [Cond.methodLink RX12 70 yX12_athleteAt, Cond.static yX12_athleteAt, Cond.code yX12_athleteAt cX12_athleteAt 2 (some .int), Cond.methodLink RX12 91 yX12_tried, Cond.static yX12_tried, Cond.code yX12_tried cX12_tried 2 (some .int), Cond.methodLink RX12 136 yX12_isAthlete, Cond.instanceMethod yX12_isAthlete, Cond.selects RX12 yX12_isAthlete yX12_isAthlete, Cond.code yX12_isAthlete cX12_isAthlete 2 (some .boolean), Cond.methodLink RX12 139 yX12_isSection, Cond.instanceMethod yX12_isSection, Cond.selects RX12 yX12_isSection yX12_isSection, Cond.code yX12_isSection cX12_isSection 2 (some .boolean), Cond.methodLink RX12 142 yX12_changes, Cond.instanceMethod yX12_changes, Cond.selects RX12 yX12_changes yX12_changes, Cond.code yX12_changes cX12_changes 6 none]
def wsX12_race : List Cond := .code yX12_race cX12_race 6 (some .int) :: ((wsX12_race_r1 ++ (wsX12_race_r2 ++ wsX12_race_r3)) ++ wsX120)
def wsX12_section : List Cond := .code yX12_section cX12_section 3 (some .int) :: ([.fieldLink RX12 9 "WetSuitPedalsShoesModel" "s" "[I", .methodLink RX12 139 yX12_isSection, .instanceMethod yX12_isSection, .selects RX12 yX12_isSection yX12_isSection, .initialized RX12, .code yX12_isSection cX12_isSection 2 (some .boolean), .methodLink RX12 62 yX12_isIn, .static yX12_isIn, .code yX12_isIn cX12_isIn 3 (some .boolean), .methodLink RX12 56 yX12_no, .instanceMethod yX12_no, .selects RX12 yX12_no yX12_no, .code yX12_no cX12_no 2 (some .int), .fieldLink RX12 28 "WetSuitPedalsShoesModel" "refused" "[I", .methodLink RX12 66 yX12_of, .static yX12_of, .code yX12_of cX12_of 2 (some .int), .methodLink RX12 81 yX12_takes, .static yX12_takes, .code yX12_takes cX12_takes 3 (some .int)] ++ wsX120)
def wsX12_athlete : List Cond := .code yX12_athlete cX12_athlete 3 (some .int) :: ([.fieldLink RX12 9 "WetSuitPedalsShoesModel" "s" "[I", .methodLink RX12 136 yX12_isAthlete, .instanceMethod yX12_isAthlete, .selects RX12 yX12_isAthlete yX12_isAthlete, .initialized RX12, .code yX12_isAthlete cX12_isAthlete 2 (some .boolean), .methodLink RX12 62 yX12_isIn, .static yX12_isIn, .code yX12_isIn cX12_isIn 3 (some .boolean), .methodLink RX12 56 yX12_no, .instanceMethod yX12_no, .selects RX12 yX12_no yX12_no, .code yX12_no cX12_no 2 (some .int), .fieldLink RX12 28 "WetSuitPedalsShoesModel" "refused" "[I", .methodLink RX12 70 yX12_athleteAt, .static yX12_athleteAt, .code yX12_athleteAt cX12_athleteAt 2 (some .int)] ++ wsX120)
def wsX12_tries : List Cond := .code yX12_tries cX12_tries 3 (some .int) :: ([.fieldLink RX12 9 "WetSuitPedalsShoesModel" "s" "[I", .methodLink RX12 136 yX12_isAthlete, .instanceMethod yX12_isAthlete, .selects RX12 yX12_isAthlete yX12_isAthlete, .initialized RX12, .code yX12_isAthlete cX12_isAthlete 2 (some .boolean), .methodLink RX12 62 yX12_isIn, .static yX12_isIn, .code yX12_isIn cX12_isIn 3 (some .boolean), .methodLink RX12 139 yX12_isSection, .instanceMethod yX12_isSection, .selects RX12 yX12_isSection yX12_isSection, .code yX12_isSection cX12_isSection 2 (some .boolean), .methodLink RX12 91 yX12_tried, .static yX12_tried, .code yX12_tried cX12_tried 2 (some .int), .methodLink RX12 56 yX12_no, .instanceMethod yX12_no, .selects RX12 yX12_no yX12_no, .code yX12_no cX12_no 2 (some .int), .fieldLink RX12 28 "WetSuitPedalsShoesModel" "refused" "[I"] ++ wsX120)
def wsX12_turn : List Cond := .code yX12_turn cX12_turn 5 (some .int) :: ([.fieldLink RX12 9 "WetSuitPedalsShoesModel" "s" "[I", .methodLink RX12 139 yX12_isSection, .instanceMethod yX12_isSection, .selects RX12 yX12_isSection yX12_isSection, .initialized RX12, .code yX12_isSection cX12_isSection 2 (some .boolean), .methodLink RX12 62 yX12_isIn, .static yX12_isIn, .code yX12_isIn cX12_isIn 3 (some .boolean), .methodLink RX12 56 yX12_no, .instanceMethod yX12_no, .selects RX12 yX12_no yX12_no, .code yX12_no cX12_no 2 (some .int), .fieldLink RX12 28 "WetSuitPedalsShoesModel" "refused" "[I", .methodLink RX12 66 yX12_of, .static yX12_of, .code yX12_of cX12_of 2 (some .int)] ++ wsX120)
def wsX12_swap : List Cond := .code yX12_swap cX12_swap 3 (some .int) :: ([.fieldLink RX12 9 "WetSuitPedalsShoesModel" "s" "[I", .methodLink RX12 139 yX12_isSection, .instanceMethod yX12_isSection, .selects RX12 yX12_isSection yX12_isSection, .initialized RX12, .code yX12_isSection cX12_isSection 2 (some .boolean), .methodLink RX12 62 yX12_isIn, .static yX12_isIn, .code yX12_isIn cX12_isIn 3 (some .boolean), .methodLink RX12 56 yX12_no, .instanceMethod yX12_no, .selects RX12 yX12_no yX12_no, .code yX12_no cX12_no 2 (some .int), .fieldLink RX12 28 "WetSuitPedalsShoesModel" "refused" "[I", .methodLink RX12 142 yX12_changes, .instanceMethod yX12_changes, .selects RX12 yX12_changes yX12_changes, .code yX12_changes cX12_changes 6 none, .methodLink RX12 66 yX12_of, .static yX12_of, .code yX12_of cX12_of 2 (some .int)] ++ wsX120)
def wsX12_skill : List Cond := .code yX12_skill cX12_skill 5 (some .int) :: ([.fieldLink RX12 9 "WetSuitPedalsShoesModel" "s" "[I", .methodLink RX12 136 yX12_isAthlete, .instanceMethod yX12_isAthlete, .selects RX12 yX12_isAthlete yX12_isAthlete, .initialized RX12, .code yX12_isAthlete cX12_isAthlete 2 (some .boolean), .methodLink RX12 62 yX12_isIn, .static yX12_isIn, .code yX12_isIn cX12_isIn 3 (some .boolean), .methodLink RX12 56 yX12_no, .instanceMethod yX12_no, .selects RX12 yX12_no yX12_no, .code yX12_no cX12_no 2 (some .int), .fieldLink RX12 28 "WetSuitPedalsShoesModel" "refused" "[I", .methodLink RX12 70 yX12_athleteAt, .static yX12_athleteAt, .code yX12_athleteAt cX12_athleteAt 2 (some .int)] ++ wsX120)
def wsX12_tryHard : List Cond := .code yX12_tryHard cX12_tryHard 5 (some .int) :: ([.fieldLink RX12 9 "WetSuitPedalsShoesModel" "s" "[I", .methodLink RX12 136 yX12_isAthlete, .instanceMethod yX12_isAthlete, .selects RX12 yX12_isAthlete yX12_isAthlete, .initialized RX12, .code yX12_isAthlete cX12_isAthlete 2 (some .boolean), .methodLink RX12 62 yX12_isIn, .static yX12_isIn, .code yX12_isIn cX12_isIn 3 (some .boolean), .methodLink RX12 139 yX12_isSection, .instanceMethod yX12_isSection, .selects RX12 yX12_isSection yX12_isSection, .code yX12_isSection cX12_isSection 2 (some .boolean), .methodLink RX12 56 yX12_no, .instanceMethod yX12_no, .selects RX12 yX12_no yX12_no, .code yX12_no cX12_no 2 (some .int), .fieldLink RX12 28 "WetSuitPedalsShoesModel" "refused" "[I", .methodLink RX12 91 yX12_tried, .static yX12_tried, .code yX12_tried cX12_tried 2 (some .int)] ++ wsX120)
def wsX12_by_r1 : List Cond := [Cond.fieldLink RX12 9 "WetSuitPedalsShoesModel" "s" "[I", Cond.fieldLink RX12 31 "WetSuitPedalsShoesModel" "seconds" "[I", Cond.fieldLink RX12 34 "WetSuitPedalsShoesModel" "legs" "[I", Cond.fieldLink RX12 37 "WetSuitPedalsShoesModel" "sums" "[I", Cond.methodLink RX12 136 yX12_isAthlete, Cond.instanceMethod yX12_isAthlete, Cond.selects RX12 yX12_isAthlete yX12_isAthlete, Cond.initialized RX12, Cond.code yX12_isAthlete cX12_isAthlete 2 (some .boolean), Cond.methodLink RX12 62 yX12_isIn, Cond.static yX12_isIn, Cond.code yX12_isIn cX12_isIn 3 (some .boolean), Cond.methodLink RX12 139 yX12_isSection, Cond.instanceMethod yX12_isSection, Cond.selects RX12 yX12_isSection yX12_isSection, Cond.code yX12_isSection cX12_isSection 2 (some .boolean), Cond.methodLink RX12 56 yX12_no, Cond.instanceMethod yX12_no, Cond.selects RX12 yX12_no yX12_no, Cond.code yX12_no cX12_no 2 (some .int), Cond.fieldLink RX12 28 "WetSuitPedalsShoesModel" "refused" "[I", Cond.methodLink RX12 156 yX12_finishOf, Cond.instanceMethod yX12_finishOf, Cond.selects RX12 yX12_finishOf yX12_finishOf]
def wsX12_by_r2 : List Cond := [Cond.code yX12_finishOf cX12_finishOf 3 (some .int), Cond.methodLink RX12 102 yX12_goes, Cond.instanceMethod yX12_goes, Cond.selects RX12 yX12_goes yX12_goes, Cond.code yX12_goes cX12_goes 7 (some .int), Cond.methodLink RX12 70 yX12_athleteAt, Cond.static yX12_athleteAt, Cond.code yX12_athleteAt cX12_athleteAt 2 (some .int), Cond.methodLink RX12 91 yX12_tried, Cond.static yX12_tried, Cond.code yX12_tried cX12_tried 2 (some .int), Cond.methodLink RX12 94 yX12_secondsBy, Cond.static yX12_secondsBy, Cond.code yX12_secondsBy cX12_secondsBy 6 (some .int), Cond.methodLink RX12 77 yX12_plain, Cond.static yX12_plain, Cond.code yX12_plain cX12_plain 7 (some .int), Cond.methodLink RX12 66 yX12_of, Cond.static yX12_of, Cond.code yX12_of cX12_of 2 (some .int), Cond.methodLink RX12 73 yX12_isRide, Cond.static yX12_isRide, Cond.code yX12_isRide cX12_isRide 2 (some .boolean), Cond.methodLink RX12 98 yX12_legsBehind]
def wsX12_by_r3 : List Cond := [Cond.static yX12_legsBehind, Cond.code yX12_legsBehind cX12_legsBehind 5 (some .int), Cond.methodLink RX12 81 yX12_takes, Cond.static yX12_takes, Cond.code yX12_takes cX12_takes 3 (some .int), Cond.methodLink RX12 85 yX12_most, Cond.static yX12_most, Cond.code yX12_most cX12_most 2 (some .int), Cond.methodLink RX12 88 yX12_least, Cond.static yX12_least, Cond.code yX12_least cX12_least 2 (some .int)]
def wsX12_by : List Cond := .code yX12_by cX12_by 5 (some .int) :: ((wsX12_by_r1 ++ (wsX12_by_r2 ++ wsX12_by_r3)) ++ wsX120)
def wsX12_finish_r1 : List Cond := [Cond.fieldLink RX12 9 "WetSuitPedalsShoesModel" "s" "[I", Cond.fieldLink RX12 34 "WetSuitPedalsShoesModel" "legs" "[I", Cond.methodLink RX12 136 yX12_isAthlete, Cond.instanceMethod yX12_isAthlete, Cond.selects RX12 yX12_isAthlete yX12_isAthlete, Cond.initialized RX12, Cond.code yX12_isAthlete cX12_isAthlete 2 (some .boolean), Cond.methodLink RX12 62 yX12_isIn, Cond.static yX12_isIn, Cond.code yX12_isIn cX12_isIn 3 (some .boolean), Cond.methodLink RX12 56 yX12_no, Cond.instanceMethod yX12_no, Cond.selects RX12 yX12_no yX12_no, Cond.code yX12_no cX12_no 2 (some .int), Cond.fieldLink RX12 28 "WetSuitPedalsShoesModel" "refused" "[I", Cond.methodLink RX12 156 yX12_finishOf, Cond.instanceMethod yX12_finishOf, Cond.selects RX12 yX12_finishOf yX12_finishOf, Cond.code yX12_finishOf cX12_finishOf 3 (some .int), Cond.methodLink RX12 102 yX12_goes, Cond.instanceMethod yX12_goes, Cond.selects RX12 yX12_goes yX12_goes, Cond.code yX12_goes cX12_goes 7 (some .int), Cond.fieldLink RX12 31 "WetSuitPedalsShoesModel" "seconds" "[I"]
def wsX12_finish_r2 : List Cond := [Cond.fieldLink RX12 37 "WetSuitPedalsShoesModel" "sums" "[I", Cond.methodLink RX12 70 yX12_athleteAt, Cond.static yX12_athleteAt, Cond.code yX12_athleteAt cX12_athleteAt 2 (some .int), Cond.methodLink RX12 91 yX12_tried, Cond.static yX12_tried, Cond.code yX12_tried cX12_tried 2 (some .int), Cond.methodLink RX12 94 yX12_secondsBy, Cond.static yX12_secondsBy, Cond.code yX12_secondsBy cX12_secondsBy 6 (some .int), Cond.methodLink RX12 77 yX12_plain, Cond.static yX12_plain, Cond.code yX12_plain cX12_plain 7 (some .int), Cond.methodLink RX12 66 yX12_of, Cond.static yX12_of, Cond.code yX12_of cX12_of 2 (some .int), Cond.methodLink RX12 73 yX12_isRide, Cond.static yX12_isRide, Cond.code yX12_isRide cX12_isRide 2 (some .boolean), Cond.methodLink RX12 98 yX12_legsBehind, Cond.static yX12_legsBehind, Cond.code yX12_legsBehind cX12_legsBehind 5 (some .int), Cond.methodLink RX12 81 yX12_takes, Cond.static yX12_takes]
def wsX12_finish_r3 : List Cond := [Cond.code yX12_takes cX12_takes 3 (some .int), Cond.methodLink RX12 85 yX12_most, Cond.static yX12_most, Cond.code yX12_most cX12_most 2 (some .int), Cond.methodLink RX12 88 yX12_least, Cond.static yX12_least, Cond.code yX12_least cX12_least 2 (some .int)]
def wsX12_finish : List Cond := .code yX12_finish cX12_finish 6 (some .int) :: ((wsX12_finish_r1 ++ (wsX12_finish_r2 ++ wsX12_finish_r3)) ++ wsX120)
def wsX12_at_r1 : List Cond := [Cond.fieldLink RX12 9 "WetSuitPedalsShoesModel" "s" "[I", Cond.fieldLink RX12 37 "WetSuitPedalsShoesModel" "sums" "[I", Cond.methodLink RX12 136 yX12_isAthlete, Cond.instanceMethod yX12_isAthlete, Cond.selects RX12 yX12_isAthlete yX12_isAthlete, Cond.initialized RX12, Cond.code yX12_isAthlete cX12_isAthlete 2 (some .boolean), Cond.methodLink RX12 62 yX12_isIn, Cond.static yX12_isIn, Cond.code yX12_isIn cX12_isIn 3 (some .boolean), Cond.methodLink RX12 56 yX12_no, Cond.instanceMethod yX12_no, Cond.selects RX12 yX12_no yX12_no, Cond.code yX12_no cX12_no 2 (some .int), Cond.fieldLink RX12 28 "WetSuitPedalsShoesModel" "refused" "[I", Cond.methodLink RX12 156 yX12_finishOf, Cond.instanceMethod yX12_finishOf, Cond.selects RX12 yX12_finishOf yX12_finishOf, Cond.code yX12_finishOf cX12_finishOf 3 (some .int), Cond.methodLink RX12 102 yX12_goes, Cond.instanceMethod yX12_goes, Cond.selects RX12 yX12_goes yX12_goes, Cond.code yX12_goes cX12_goes 7 (some .int), Cond.fieldLink RX12 31 "WetSuitPedalsShoesModel" "seconds" "[I"]
def wsX12_at_r2 : List Cond := [Cond.fieldLink RX12 34 "WetSuitPedalsShoesModel" "legs" "[I", Cond.methodLink RX12 70 yX12_athleteAt, Cond.static yX12_athleteAt, Cond.code yX12_athleteAt cX12_athleteAt 2 (some .int), Cond.methodLink RX12 91 yX12_tried, Cond.static yX12_tried, Cond.code yX12_tried cX12_tried 2 (some .int), Cond.methodLink RX12 94 yX12_secondsBy, Cond.static yX12_secondsBy, Cond.code yX12_secondsBy cX12_secondsBy 6 (some .int), Cond.methodLink RX12 77 yX12_plain, Cond.static yX12_plain, Cond.code yX12_plain cX12_plain 7 (some .int), Cond.methodLink RX12 66 yX12_of, Cond.static yX12_of, Cond.code yX12_of cX12_of 2 (some .int), Cond.methodLink RX12 73 yX12_isRide, Cond.static yX12_isRide, Cond.code yX12_isRide cX12_isRide 2 (some .boolean), Cond.methodLink RX12 98 yX12_legsBehind, Cond.static yX12_legsBehind, Cond.code yX12_legsBehind cX12_legsBehind 5 (some .int), Cond.methodLink RX12 81 yX12_takes, Cond.static yX12_takes]
def wsX12_at_r3 : List Cond := [Cond.code yX12_takes cX12_takes 3 (some .int), Cond.methodLink RX12 85 yX12_most, Cond.static yX12_most, Cond.code yX12_most cX12_most 2 (some .int), Cond.methodLink RX12 88 yX12_least, Cond.static yX12_least, Cond.code yX12_least cX12_least 2 (some .int)]
def wsX12_at : List Cond := .code yX12_at cX12_at 5 (some .int) :: ((wsX12_at_r1 ++ (wsX12_at_r2 ++ wsX12_at_r3)) ++ wsX120)
def wsX12_overtakes_r1 : List Cond := [Cond.fieldLink RX12 9 "WetSuitPedalsShoesModel" "s" "[I", Cond.fieldLink RX12 43 "WetSuitPedalsShoesModel" "own" "[I", Cond.fieldLink RX12 37 "WetSuitPedalsShoesModel" "sums" "[I", Cond.methodLink RX12 136 yX12_isAthlete, Cond.instanceMethod yX12_isAthlete, Cond.selects RX12 yX12_isAthlete yX12_isAthlete, Cond.initialized RX12, Cond.code yX12_isAthlete cX12_isAthlete 2 (some .boolean), Cond.methodLink RX12 62 yX12_isIn, Cond.static yX12_isIn, Cond.code yX12_isIn cX12_isIn 3 (some .boolean), Cond.methodLink RX12 56 yX12_no, Cond.instanceMethod yX12_no, Cond.selects RX12 yX12_no yX12_no, Cond.code yX12_no cX12_no 2 (some .int), Cond.fieldLink RX12 28 "WetSuitPedalsShoesModel" "refused" "[I", Cond.methodLink RX12 156 yX12_finishOf, Cond.instanceMethod yX12_finishOf, Cond.selects RX12 yX12_finishOf yX12_finishOf, Cond.code yX12_finishOf cX12_finishOf 3 (some .int), Cond.methodLink RX12 102 yX12_goes, Cond.instanceMethod yX12_goes, Cond.selects RX12 yX12_goes yX12_goes, Cond.code yX12_goes cX12_goes 7 (some .int)]
def wsX12_overtakes_r2 : List Cond := [Cond.fieldLink RX12 31 "WetSuitPedalsShoesModel" "seconds" "[I", Cond.fieldLink RX12 34 "WetSuitPedalsShoesModel" "legs" "[I", Cond.methodLink RX12 70 yX12_athleteAt, Cond.static yX12_athleteAt, Cond.code yX12_athleteAt cX12_athleteAt 2 (some .int), Cond.methodLink RX12 91 yX12_tried, Cond.static yX12_tried, Cond.code yX12_tried cX12_tried 2 (some .int), Cond.methodLink RX12 94 yX12_secondsBy, Cond.static yX12_secondsBy, Cond.code yX12_secondsBy cX12_secondsBy 6 (some .int), Cond.methodLink RX12 77 yX12_plain, Cond.static yX12_plain, Cond.code yX12_plain cX12_plain 7 (some .int), Cond.methodLink RX12 66 yX12_of, Cond.static yX12_of, Cond.code yX12_of cX12_of 2 (some .int), Cond.methodLink RX12 73 yX12_isRide, Cond.static yX12_isRide, Cond.code yX12_isRide cX12_isRide 2 (some .boolean), Cond.methodLink RX12 98 yX12_legsBehind, Cond.static yX12_legsBehind, Cond.code yX12_legsBehind cX12_legsBehind 5 (some .int), Cond.methodLink RX12 81 yX12_takes]
def wsX12_overtakes_r3 : List Cond := [Cond.static yX12_takes, Cond.code yX12_takes cX12_takes 3 (some .int), Cond.methodLink RX12 85 yX12_most, Cond.static yX12_most, Cond.code yX12_most cX12_most 2 (some .int), Cond.methodLink RX12 88 yX12_least, Cond.static yX12_least, Cond.code yX12_least cX12_least 2 (some .int)]
def wsX12_overtakes : List Cond := .code yX12_overtakes cX12_overtakes 8 (some .int) :: ((wsX12_overtakes_r1 ++ (wsX12_overtakes_r2 ++ wsX12_overtakes_r3)) ++ wsX120)
def wsX12_withTries_r1 : List Cond := [Cond.fieldLink RX12 9 "WetSuitPedalsShoesModel" "s" "[I", Cond.fieldLink RX12 46 "WetSuitPedalsShoesModel" "fewest" "[I", Cond.methodLink RX12 94 yX12_secondsBy, Cond.static yX12_secondsBy, Cond.initialized RX12, Cond.code yX12_secondsBy cX12_secondsBy 6 (some .int), Cond.methodLink RX12 77 yX12_plain, Cond.static yX12_plain, Cond.code yX12_plain cX12_plain 7 (some .int), Cond.methodLink RX12 66 yX12_of, Cond.static yX12_of, Cond.code yX12_of cX12_of 2 (some .int), Cond.methodLink RX12 70 yX12_athleteAt, Cond.static yX12_athleteAt, Cond.code yX12_athleteAt cX12_athleteAt 2 (some .int), Cond.methodLink RX12 73 yX12_isRide, Cond.static yX12_isRide, Cond.code yX12_isRide cX12_isRide 2 (some .boolean), Cond.methodLink RX12 62 yX12_isIn, Cond.static yX12_isIn, Cond.code yX12_isIn cX12_isIn 3 (some .boolean), Cond.methodLink RX12 98 yX12_legsBehind, Cond.static yX12_legsBehind, Cond.code yX12_legsBehind cX12_legsBehind 5 (some .int)]
def wsX12_withTries_r2 : List Cond := [Cond.methodLink RX12 81 yX12_takes, Cond.static yX12_takes, Cond.code yX12_takes cX12_takes 3 (some .int), Cond.methodLink RX12 85 yX12_most, Cond.static yX12_most, Cond.code yX12_most cX12_most 2 (some .int), Cond.methodLink RX12 88 yX12_least, Cond.static yX12_least, Cond.code yX12_least cX12_least 2 (some .int)]
def wsX12_withTries : List Cond := .code yX12_withTries cX12_withTries 5 (some .int) :: ((wsX12_withTries_r1 ++ wsX12_withTries_r2) ++ wsX120)
def wsX12_findsPlans_r1 : List Cond := [Cond.fieldLink RX12 46 "WetSuitPedalsShoesModel" "fewest" "[I", Cond.fieldLink RX12 9 "WetSuitPedalsShoesModel" "s" "[I", Cond.constant RX12 55 (1000000000), Cond.methodLink RX12 159 yX12_withTries, Cond.instanceMethod yX12_withTries, Cond.selects RX12 yX12_withTries yX12_withTries, Cond.initialized RX12, Cond.code yX12_withTries cX12_withTries 5 (some .int), Cond.methodLink RX12 94 yX12_secondsBy, Cond.static yX12_secondsBy, Cond.code yX12_secondsBy cX12_secondsBy 6 (some .int), Cond.methodLink RX12 77 yX12_plain, Cond.static yX12_plain, Cond.code yX12_plain cX12_plain 7 (some .int), Cond.methodLink RX12 66 yX12_of, Cond.static yX12_of, Cond.code yX12_of cX12_of 2 (some .int), Cond.methodLink RX12 70 yX12_athleteAt, Cond.static yX12_athleteAt, Cond.code yX12_athleteAt cX12_athleteAt 2 (some .int), Cond.methodLink RX12 73 yX12_isRide, Cond.static yX12_isRide, Cond.code yX12_isRide cX12_isRide 2 (some .boolean), Cond.methodLink RX12 62 yX12_isIn]
def wsX12_findsPlans_r2 : List Cond := [Cond.static yX12_isIn, Cond.code yX12_isIn cX12_isIn 3 (some .boolean), Cond.methodLink RX12 98 yX12_legsBehind, Cond.static yX12_legsBehind, Cond.code yX12_legsBehind cX12_legsBehind 5 (some .int), Cond.methodLink RX12 81 yX12_takes, Cond.static yX12_takes, Cond.code yX12_takes cX12_takes 3 (some .int), Cond.methodLink RX12 85 yX12_most, Cond.static yX12_most, Cond.code yX12_most cX12_most 2 (some .int), Cond.methodLink RX12 88 yX12_least, Cond.static yX12_least, Cond.code yX12_least cX12_least 2 (some .int)]
def wsX12_findsPlans : List Cond := .code yX12_findsPlans cX12_findsPlans 6 none :: ((wsX12_findsPlans_r1 ++ wsX12_findsPlans_r2) ++ wsX120)
def wsX12_bestPlan_r1 : List Cond := [Cond.fieldLink RX12 9 "WetSuitPedalsShoesModel" "s" "[I", Cond.fieldLink RX12 46 "WetSuitPedalsShoesModel" "fewest" "[I", Cond.methodLink RX12 136 yX12_isAthlete, Cond.instanceMethod yX12_isAthlete, Cond.selects RX12 yX12_isAthlete yX12_isAthlete, Cond.initialized RX12, Cond.code yX12_isAthlete cX12_isAthlete 2 (some .boolean), Cond.methodLink RX12 62 yX12_isIn, Cond.static yX12_isIn, Cond.code yX12_isIn cX12_isIn 3 (some .boolean), Cond.methodLink RX12 139 yX12_isSection, Cond.instanceMethod yX12_isSection, Cond.selects RX12 yX12_isSection yX12_isSection, Cond.code yX12_isSection cX12_isSection 2 (some .boolean), Cond.methodLink RX12 56 yX12_no, Cond.instanceMethod yX12_no, Cond.selects RX12 yX12_no yX12_no, Cond.code yX12_no cX12_no 2 (some .int), Cond.fieldLink RX12 28 "WetSuitPedalsShoesModel" "refused" "[I", Cond.methodLink RX12 163 yX12_findsPlans, Cond.instanceMethod yX12_findsPlans, Cond.selects RX12 yX12_findsPlans yX12_findsPlans, Cond.code yX12_findsPlans cX12_findsPlans 6 none, Cond.constant RX12 55 (1000000000)]
def wsX12_bestPlan_r2 : List Cond := [Cond.methodLink RX12 159 yX12_withTries, Cond.instanceMethod yX12_withTries, Cond.selects RX12 yX12_withTries yX12_withTries, Cond.code yX12_withTries cX12_withTries 5 (some .int), Cond.methodLink RX12 94 yX12_secondsBy, Cond.static yX12_secondsBy, Cond.code yX12_secondsBy cX12_secondsBy 6 (some .int), Cond.methodLink RX12 77 yX12_plain, Cond.static yX12_plain, Cond.code yX12_plain cX12_plain 7 (some .int), Cond.methodLink RX12 66 yX12_of, Cond.static yX12_of, Cond.code yX12_of cX12_of 2 (some .int), Cond.methodLink RX12 70 yX12_athleteAt, Cond.static yX12_athleteAt, Cond.code yX12_athleteAt cX12_athleteAt 2 (some .int), Cond.methodLink RX12 73 yX12_isRide, Cond.static yX12_isRide, Cond.code yX12_isRide cX12_isRide 2 (some .boolean), Cond.methodLink RX12 98 yX12_legsBehind, Cond.static yX12_legsBehind, Cond.code yX12_legsBehind cX12_legsBehind 5 (some .int), Cond.methodLink RX12 81 yX12_takes, Cond.static yX12_takes]
def wsX12_bestPlan_r3 : List Cond := [Cond.code yX12_takes cX12_takes 3 (some .int), Cond.methodLink RX12 85 yX12_most, Cond.static yX12_most, Cond.code yX12_most cX12_most 2 (some .int), Cond.methodLink RX12 88 yX12_least, Cond.static yX12_least, Cond.code yX12_least cX12_least 2 (some .int)]
def wsX12_bestPlan : List Cond := .code yX12_bestPlan cX12_bestPlan 6 (some .int) :: ((wsX12_bestPlan_r1 ++ (wsX12_bestPlan_r2 ++ wsX12_bestPlan_r3)) ++ wsX120)
def wsX12_hardest_r1 : List Cond := [Cond.fieldLink RX12 9 "WetSuitPedalsShoesModel" "s" "[I", Cond.fieldLink RX12 13 "WetSuitPedalsShoesModel" "m" "[I", Cond.fieldLink RX12 34 "WetSuitPedalsShoesModel" "legs" "[I", Cond.methodLink RX12 136 yX12_isAthlete, Cond.instanceMethod yX12_isAthlete, Cond.selects RX12 yX12_isAthlete yX12_isAthlete, Cond.initialized RX12, Cond.code yX12_isAthlete cX12_isAthlete 2 (some .boolean), Cond.methodLink RX12 62 yX12_isIn, Cond.static yX12_isIn, Cond.code yX12_isIn cX12_isIn 3 (some .boolean), Cond.methodLink RX12 56 yX12_no, Cond.instanceMethod yX12_no, Cond.selects RX12 yX12_no yX12_no, Cond.code yX12_no cX12_no 2 (some .int), Cond.fieldLink RX12 28 "WetSuitPedalsShoesModel" "refused" "[I", Cond.methodLink RX12 149 yX12_lays, Cond.static yX12_lays, Cond.code yX12_lays cX12_lays 3 none, Cond.methodLink RX12 73 yX12_isRide, Cond.static yX12_isRide, Cond.code yX12_isRide cX12_isRide 2 (some .boolean), Cond.methodLink RX12 66 yX12_of, Cond.static yX12_of]
def wsX12_hardest_r2 : List Cond := [Cond.code yX12_of cX12_of 2 (some .int), Cond.methodLink RX12 91 yX12_tried, Cond.static yX12_tried, Cond.code yX12_tried cX12_tried 2 (some .int), Cond.methodLink RX12 156 yX12_finishOf, Cond.instanceMethod yX12_finishOf, Cond.selects RX12 yX12_finishOf yX12_finishOf, Cond.code yX12_finishOf cX12_finishOf 3 (some .int), Cond.methodLink RX12 102 yX12_goes, Cond.instanceMethod yX12_goes, Cond.selects RX12 yX12_goes yX12_goes, Cond.code yX12_goes cX12_goes 7 (some .int), Cond.fieldLink RX12 31 "WetSuitPedalsShoesModel" "seconds" "[I", Cond.fieldLink RX12 37 "WetSuitPedalsShoesModel" "sums" "[I", Cond.methodLink RX12 70 yX12_athleteAt, Cond.static yX12_athleteAt, Cond.code yX12_athleteAt cX12_athleteAt 2 (some .int), Cond.methodLink RX12 94 yX12_secondsBy, Cond.static yX12_secondsBy, Cond.code yX12_secondsBy cX12_secondsBy 6 (some .int), Cond.methodLink RX12 77 yX12_plain, Cond.static yX12_plain, Cond.code yX12_plain cX12_plain 7 (some .int), Cond.methodLink RX12 98 yX12_legsBehind]
def wsX12_hardest_r3 : List Cond := [Cond.static yX12_legsBehind, Cond.code yX12_legsBehind cX12_legsBehind 5 (some .int), Cond.methodLink RX12 81 yX12_takes, Cond.static yX12_takes, Cond.code yX12_takes cX12_takes 3 (some .int), Cond.methodLink RX12 85 yX12_most, Cond.static yX12_most, Cond.code yX12_most cX12_most 2 (some .int), Cond.methodLink RX12 88 yX12_least, Cond.static yX12_least, Cond.code yX12_least cX12_least 2 (some .int)]
def wsX12_hardest : List Cond := .code yX12_hardest cX12_hardest 5 (some .int) :: ((wsX12_hardest_r1 ++ (wsX12_hardest_r2 ++ wsX12_hardest_r3)) ++ wsX120)
def wsX12_leastTries_r1 : List Cond := [Cond.fieldLink RX12 49 "WetSuitPedalsShoesModel" "so" "[I", Cond.constant RX12 55 (1000000000), Cond.fieldLink RX12 9 "WetSuitPedalsShoesModel" "s" "[I", Cond.fieldLink RX12 52 "WetSuitPedalsShoesModel" "then" "[I", Cond.methodLink RX12 136 yX12_isAthlete, Cond.instanceMethod yX12_isAthlete, Cond.selects RX12 yX12_isAthlete yX12_isAthlete, Cond.initialized RX12, Cond.code yX12_isAthlete cX12_isAthlete 2 (some .boolean), Cond.methodLink RX12 62 yX12_isIn, Cond.static yX12_isIn, Cond.code yX12_isIn cX12_isIn 3 (some .boolean), Cond.methodLink RX12 56 yX12_no, Cond.instanceMethod yX12_no, Cond.selects RX12 yX12_no yX12_no, Cond.code yX12_no cX12_no 2 (some .int), Cond.fieldLink RX12 28 "WetSuitPedalsShoesModel" "refused" "[I", Cond.methodLink RX12 70 yX12_athleteAt, Cond.static yX12_athleteAt, Cond.code yX12_athleteAt cX12_athleteAt 2 (some .int), Cond.methodLink RX12 98 yX12_legsBehind, Cond.static yX12_legsBehind, Cond.code yX12_legsBehind cX12_legsBehind 5 (some .int), Cond.methodLink RX12 81 yX12_takes]
def wsX12_leastTries_r2 : List Cond := [Cond.static yX12_takes, Cond.code yX12_takes cX12_takes 3 (some .int), Cond.methodLink RX12 66 yX12_of, Cond.static yX12_of, Cond.code yX12_of cX12_of 2 (some .int), Cond.methodLink RX12 85 yX12_most, Cond.static yX12_most, Cond.code yX12_most cX12_most 2 (some .int), Cond.methodLink RX12 88 yX12_least, Cond.static yX12_least, Cond.code yX12_least cX12_least 2 (some .int), Cond.methodLink RX12 94 yX12_secondsBy, Cond.static yX12_secondsBy, Cond.code yX12_secondsBy cX12_secondsBy 6 (some .int), Cond.methodLink RX12 77 yX12_plain, Cond.static yX12_plain, Cond.code yX12_plain cX12_plain 7 (some .int), Cond.methodLink RX12 73 yX12_isRide, Cond.static yX12_isRide, Cond.code yX12_isRide cX12_isRide 2 (some .boolean)]
def wsX12_leastTries : List Cond := .code yX12_leastTries cX12_leastTries 8 (some .int) :: ((wsX12_leastTries_r1 ++ wsX12_leastTries_r2) ++ wsX120)
def wsX12_drink_r1 : List Cond := [Cond.fieldLink RX12 9 "WetSuitPedalsShoesModel" "s" "[I", Cond.methodLink RX12 136 yX12_isAthlete, Cond.instanceMethod yX12_isAthlete, Cond.selects RX12 yX12_isAthlete yX12_isAthlete, Cond.initialized RX12, Cond.code yX12_isAthlete cX12_isAthlete 2 (some .boolean), Cond.methodLink RX12 62 yX12_isIn, Cond.static yX12_isIn, Cond.code yX12_isIn cX12_isIn 3 (some .boolean), Cond.methodLink RX12 56 yX12_no, Cond.instanceMethod yX12_no, Cond.selects RX12 yX12_no yX12_no, Cond.code yX12_no cX12_no 2 (some .int), Cond.fieldLink RX12 28 "WetSuitPedalsShoesModel" "refused" "[I", Cond.methodLink RX12 156 yX12_finishOf, Cond.instanceMethod yX12_finishOf, Cond.selects RX12 yX12_finishOf yX12_finishOf, Cond.code yX12_finishOf cX12_finishOf 3 (some .int), Cond.methodLink RX12 102 yX12_goes, Cond.instanceMethod yX12_goes, Cond.selects RX12 yX12_goes yX12_goes, Cond.code yX12_goes cX12_goes 7 (some .int), Cond.fieldLink RX12 31 "WetSuitPedalsShoesModel" "seconds" "[I", Cond.fieldLink RX12 34 "WetSuitPedalsShoesModel" "legs" "[I"]
def wsX12_drink_r2 : List Cond := [Cond.fieldLink RX12 37 "WetSuitPedalsShoesModel" "sums" "[I", Cond.methodLink RX12 70 yX12_athleteAt, Cond.static yX12_athleteAt, Cond.code yX12_athleteAt cX12_athleteAt 2 (some .int), Cond.methodLink RX12 91 yX12_tried, Cond.static yX12_tried, Cond.code yX12_tried cX12_tried 2 (some .int), Cond.methodLink RX12 94 yX12_secondsBy, Cond.static yX12_secondsBy, Cond.code yX12_secondsBy cX12_secondsBy 6 (some .int), Cond.methodLink RX12 77 yX12_plain, Cond.static yX12_plain, Cond.code yX12_plain cX12_plain 7 (some .int), Cond.methodLink RX12 66 yX12_of, Cond.static yX12_of, Cond.code yX12_of cX12_of 2 (some .int), Cond.methodLink RX12 73 yX12_isRide, Cond.static yX12_isRide, Cond.code yX12_isRide cX12_isRide 2 (some .boolean), Cond.methodLink RX12 98 yX12_legsBehind, Cond.static yX12_legsBehind, Cond.code yX12_legsBehind cX12_legsBehind 5 (some .int), Cond.methodLink RX12 81 yX12_takes, Cond.static yX12_takes]
def wsX12_drink_r3 : List Cond := [Cond.code yX12_takes cX12_takes 3 (some .int), Cond.methodLink RX12 85 yX12_most, Cond.static yX12_most, Cond.code yX12_most cX12_most 2 (some .int), Cond.methodLink RX12 88 yX12_least, Cond.static yX12_least, Cond.code yX12_least cX12_least 2 (some .int)]
def wsX12_drink : List Cond := .code yX12_drink cX12_drink 7 (some .int) :: ((wsX12_drink_r1 ++ (wsX12_drink_r2 ++ wsX12_drink_r3)) ++ wsX120)
def wsX12_finishWith_r1 : List Cond := [Cond.fieldLink RX12 9 "WetSuitPedalsShoesModel" "s" "[I", Cond.fieldLink RX12 13 "WetSuitPedalsShoesModel" "m" "[I", Cond.methodLink RX12 149 yX12_lays, Cond.static yX12_lays, Cond.initialized RX12, Cond.code yX12_lays cX12_lays 3 none, Cond.methodLink RX12 70 yX12_athleteAt, Cond.static yX12_athleteAt, Cond.code yX12_athleteAt cX12_athleteAt 2 (some .int), Cond.methodLink RX12 88 yX12_least, Cond.static yX12_least, Cond.code yX12_least cX12_least 2 (some .int), Cond.methodLink RX12 156 yX12_finishOf, Cond.instanceMethod yX12_finishOf, Cond.selects RX12 yX12_finishOf yX12_finishOf, Cond.code yX12_finishOf cX12_finishOf 3 (some .int), Cond.methodLink RX12 102 yX12_goes, Cond.instanceMethod yX12_goes, Cond.selects RX12 yX12_goes yX12_goes, Cond.code yX12_goes cX12_goes 7 (some .int), Cond.fieldLink RX12 31 "WetSuitPedalsShoesModel" "seconds" "[I", Cond.fieldLink RX12 34 "WetSuitPedalsShoesModel" "legs" "[I", Cond.fieldLink RX12 37 "WetSuitPedalsShoesModel" "sums" "[I", Cond.methodLink RX12 91 yX12_tried]
def wsX12_finishWith_r2 : List Cond := [Cond.static yX12_tried, Cond.code yX12_tried cX12_tried 2 (some .int), Cond.methodLink RX12 94 yX12_secondsBy, Cond.static yX12_secondsBy, Cond.code yX12_secondsBy cX12_secondsBy 6 (some .int), Cond.methodLink RX12 77 yX12_plain, Cond.static yX12_plain, Cond.code yX12_plain cX12_plain 7 (some .int), Cond.methodLink RX12 66 yX12_of, Cond.static yX12_of, Cond.code yX12_of cX12_of 2 (some .int), Cond.methodLink RX12 73 yX12_isRide, Cond.static yX12_isRide, Cond.code yX12_isRide cX12_isRide 2 (some .boolean), Cond.methodLink RX12 62 yX12_isIn, Cond.static yX12_isIn, Cond.code yX12_isIn cX12_isIn 3 (some .boolean), Cond.methodLink RX12 98 yX12_legsBehind, Cond.static yX12_legsBehind, Cond.code yX12_legsBehind cX12_legsBehind 5 (some .int), Cond.methodLink RX12 81 yX12_takes, Cond.static yX12_takes, Cond.code yX12_takes cX12_takes 3 (some .int), Cond.methodLink RX12 85 yX12_most]
def wsX12_finishWith_r3 : List Cond := [Cond.static yX12_most, Cond.code yX12_most cX12_most 2 (some .int)]
def wsX12_finishWith : List Cond := .code yX12_finishWith cX12_finishWith 4 (some .int) :: ((wsX12_finishWith_r1 ++ (wsX12_finishWith_r2 ++ wsX12_finishWith_r3)) ++ wsX120)
def wsX12_train_r1 : List Cond := [Cond.fieldLink RX12 9 "WetSuitPedalsShoesModel" "s" "[I", Cond.methodLink RX12 136 yX12_isAthlete, Cond.instanceMethod yX12_isAthlete, Cond.selects RX12 yX12_isAthlete yX12_isAthlete, Cond.initialized RX12, Cond.code yX12_isAthlete cX12_isAthlete 2 (some .boolean), Cond.methodLink RX12 62 yX12_isIn, Cond.static yX12_isIn, Cond.code yX12_isIn cX12_isIn 3 (some .boolean), Cond.methodLink RX12 167 yX12_noFar, Cond.instanceMethod yX12_noFar, Cond.selects RX12 yX12_noFar yX12_noFar, Cond.code yX12_noFar cX12_noFar 2 (some .int), Cond.constant RX12 55 (1000000000), Cond.methodLink RX12 56 yX12_no, Cond.instanceMethod yX12_no, Cond.selects RX12 yX12_no yX12_no, Cond.code yX12_no cX12_no 2 (some .int), Cond.fieldLink RX12 28 "WetSuitPedalsShoesModel" "refused" "[I", Cond.methodLink RX12 170 yX12_finishWith, Cond.instanceMethod yX12_finishWith, Cond.selects RX12 yX12_finishWith yX12_finishWith, Cond.code yX12_finishWith cX12_finishWith 4 (some .int), Cond.fieldLink RX12 13 "WetSuitPedalsShoesModel" "m" "[I"]
def wsX12_train_r2 : List Cond := [Cond.methodLink RX12 149 yX12_lays, Cond.static yX12_lays, Cond.code yX12_lays cX12_lays 3 none, Cond.methodLink RX12 70 yX12_athleteAt, Cond.static yX12_athleteAt, Cond.code yX12_athleteAt cX12_athleteAt 2 (some .int), Cond.methodLink RX12 88 yX12_least, Cond.static yX12_least, Cond.code yX12_least cX12_least 2 (some .int), Cond.methodLink RX12 156 yX12_finishOf, Cond.instanceMethod yX12_finishOf, Cond.selects RX12 yX12_finishOf yX12_finishOf, Cond.code yX12_finishOf cX12_finishOf 3 (some .int), Cond.methodLink RX12 102 yX12_goes, Cond.instanceMethod yX12_goes, Cond.selects RX12 yX12_goes yX12_goes, Cond.code yX12_goes cX12_goes 7 (some .int), Cond.fieldLink RX12 31 "WetSuitPedalsShoesModel" "seconds" "[I", Cond.fieldLink RX12 34 "WetSuitPedalsShoesModel" "legs" "[I", Cond.fieldLink RX12 37 "WetSuitPedalsShoesModel" "sums" "[I", Cond.methodLink RX12 91 yX12_tried, Cond.static yX12_tried, Cond.code yX12_tried cX12_tried 2 (some .int), Cond.methodLink RX12 94 yX12_secondsBy]
def wsX12_train_r3 : List Cond := [Cond.static yX12_secondsBy, Cond.code yX12_secondsBy cX12_secondsBy 6 (some .int), Cond.methodLink RX12 77 yX12_plain, Cond.static yX12_plain, Cond.code yX12_plain cX12_plain 7 (some .int), Cond.methodLink RX12 66 yX12_of, Cond.static yX12_of, Cond.code yX12_of cX12_of 2 (some .int), Cond.methodLink RX12 73 yX12_isRide, Cond.static yX12_isRide, Cond.code yX12_isRide cX12_isRide 2 (some .boolean), Cond.methodLink RX12 98 yX12_legsBehind, Cond.static yX12_legsBehind, Cond.code yX12_legsBehind cX12_legsBehind 5 (some .int), Cond.methodLink RX12 81 yX12_takes, Cond.static yX12_takes, Cond.code yX12_takes cX12_takes 3 (some .int), Cond.methodLink RX12 85 yX12_most, Cond.static yX12_most, Cond.code yX12_most cX12_most 2 (some .int)]
def wsX12_train : List Cond := .code yX12_train cX12_train 5 (some .int) :: ((wsX12_train_r1 ++ (wsX12_train_r2 ++ wsX12_train_r3)) ++ wsX120)
def wsX12_weakest_r1 : List Cond := [Cond.fieldLink RX12 9 "WetSuitPedalsShoesModel" "s" "[I", Cond.fieldLink RX12 31 "WetSuitPedalsShoesModel" "seconds" "[I", Cond.methodLink RX12 136 yX12_isAthlete, Cond.instanceMethod yX12_isAthlete, Cond.selects RX12 yX12_isAthlete yX12_isAthlete, Cond.initialized RX12, Cond.code yX12_isAthlete cX12_isAthlete 2 (some .boolean), Cond.methodLink RX12 62 yX12_isIn, Cond.static yX12_isIn, Cond.code yX12_isIn cX12_isIn 3 (some .boolean), Cond.methodLink RX12 56 yX12_no, Cond.instanceMethod yX12_no, Cond.selects RX12 yX12_no yX12_no, Cond.code yX12_no cX12_no 2 (some .int), Cond.fieldLink RX12 28 "WetSuitPedalsShoesModel" "refused" "[I", Cond.methodLink RX12 156 yX12_finishOf, Cond.instanceMethod yX12_finishOf, Cond.selects RX12 yX12_finishOf yX12_finishOf, Cond.code yX12_finishOf cX12_finishOf 3 (some .int), Cond.methodLink RX12 102 yX12_goes, Cond.instanceMethod yX12_goes, Cond.selects RX12 yX12_goes yX12_goes, Cond.code yX12_goes cX12_goes 7 (some .int), Cond.fieldLink RX12 34 "WetSuitPedalsShoesModel" "legs" "[I"]
def wsX12_weakest_r2 : List Cond := [Cond.fieldLink RX12 37 "WetSuitPedalsShoesModel" "sums" "[I", Cond.methodLink RX12 70 yX12_athleteAt, Cond.static yX12_athleteAt, Cond.code yX12_athleteAt cX12_athleteAt 2 (some .int), Cond.methodLink RX12 91 yX12_tried, Cond.static yX12_tried, Cond.code yX12_tried cX12_tried 2 (some .int), Cond.methodLink RX12 94 yX12_secondsBy, Cond.static yX12_secondsBy, Cond.code yX12_secondsBy cX12_secondsBy 6 (some .int), Cond.methodLink RX12 77 yX12_plain, Cond.static yX12_plain, Cond.code yX12_plain cX12_plain 7 (some .int), Cond.methodLink RX12 66 yX12_of, Cond.static yX12_of, Cond.code yX12_of cX12_of 2 (some .int), Cond.methodLink RX12 73 yX12_isRide, Cond.static yX12_isRide, Cond.code yX12_isRide cX12_isRide 2 (some .boolean), Cond.methodLink RX12 98 yX12_legsBehind, Cond.static yX12_legsBehind, Cond.code yX12_legsBehind cX12_legsBehind 5 (some .int), Cond.methodLink RX12 81 yX12_takes, Cond.static yX12_takes]
def wsX12_weakest_r3 : List Cond := [Cond.code yX12_takes cX12_takes 3 (some .int), Cond.methodLink RX12 85 yX12_most, Cond.static yX12_most, Cond.code yX12_most cX12_most 2 (some .int), Cond.methodLink RX12 88 yX12_least, Cond.static yX12_least, Cond.code yX12_least cX12_least 2 (some .int)]
def wsX12_weakest : List Cond := .code yX12_weakest cX12_weakest 5 (some .int) :: ((wsX12_weakest_r1 ++ (wsX12_weakest_r2 ++ wsX12_weakest_r3)) ++ wsX120)
def wsX12_meadow_r1 : List Cond := [Cond.fieldLink RX12 9 "WetSuitPedalsShoesModel" "s" "[I", Cond.fieldLink RX12 31 "WetSuitPedalsShoesModel" "seconds" "[I", Cond.methodLink RX12 136 yX12_isAthlete, Cond.instanceMethod yX12_isAthlete, Cond.selects RX12 yX12_isAthlete yX12_isAthlete, Cond.initialized RX12, Cond.code yX12_isAthlete cX12_isAthlete 2 (some .boolean), Cond.methodLink RX12 62 yX12_isIn, Cond.static yX12_isIn, Cond.code yX12_isIn cX12_isIn 3 (some .boolean), Cond.methodLink RX12 56 yX12_no, Cond.instanceMethod yX12_no, Cond.selects RX12 yX12_no yX12_no, Cond.code yX12_no cX12_no 2 (some .int), Cond.fieldLink RX12 28 "WetSuitPedalsShoesModel" "refused" "[I", Cond.methodLink RX12 156 yX12_finishOf, Cond.instanceMethod yX12_finishOf, Cond.selects RX12 yX12_finishOf yX12_finishOf, Cond.code yX12_finishOf cX12_finishOf 3 (some .int), Cond.methodLink RX12 102 yX12_goes, Cond.instanceMethod yX12_goes, Cond.selects RX12 yX12_goes yX12_goes, Cond.code yX12_goes cX12_goes 7 (some .int), Cond.fieldLink RX12 34 "WetSuitPedalsShoesModel" "legs" "[I"]
def wsX12_meadow_r2 : List Cond := [Cond.fieldLink RX12 37 "WetSuitPedalsShoesModel" "sums" "[I", Cond.methodLink RX12 70 yX12_athleteAt, Cond.static yX12_athleteAt, Cond.code yX12_athleteAt cX12_athleteAt 2 (some .int), Cond.methodLink RX12 91 yX12_tried, Cond.static yX12_tried, Cond.code yX12_tried cX12_tried 2 (some .int), Cond.methodLink RX12 94 yX12_secondsBy, Cond.static yX12_secondsBy, Cond.code yX12_secondsBy cX12_secondsBy 6 (some .int), Cond.methodLink RX12 77 yX12_plain, Cond.static yX12_plain, Cond.code yX12_plain cX12_plain 7 (some .int), Cond.methodLink RX12 66 yX12_of, Cond.static yX12_of, Cond.code yX12_of cX12_of 2 (some .int), Cond.methodLink RX12 73 yX12_isRide, Cond.static yX12_isRide, Cond.code yX12_isRide cX12_isRide 2 (some .boolean), Cond.methodLink RX12 98 yX12_legsBehind, Cond.static yX12_legsBehind, Cond.code yX12_legsBehind cX12_legsBehind 5 (some .int), Cond.methodLink RX12 81 yX12_takes, Cond.static yX12_takes]
def wsX12_meadow_r3 : List Cond := [Cond.code yX12_takes cX12_takes 3 (some .int), Cond.methodLink RX12 85 yX12_most, Cond.static yX12_most, Cond.code yX12_most cX12_most 2 (some .int), Cond.methodLink RX12 88 yX12_least, Cond.static yX12_least, Cond.code yX12_least cX12_least 2 (some .int), Cond.methodLink RX12 170 yX12_finishWith, Cond.instanceMethod yX12_finishWith, Cond.selects RX12 yX12_finishWith yX12_finishWith, Cond.code yX12_finishWith cX12_finishWith 4 (some .int), Cond.fieldLink RX12 13 "WetSuitPedalsShoesModel" "m" "[I", Cond.methodLink RX12 149 yX12_lays, Cond.static yX12_lays, Cond.code yX12_lays cX12_lays 3 none]
def wsX12_meadow : List Cond := .code yX12_meadow cX12_meadow 6 (some .int) :: ((wsX12_meadow_r1 ++ (wsX12_meadow_r2 ++ wsX12_meadow_r3)) ++ wsX120)
def wsX12_leave_r1 : List Cond := [Cond.constant RX12 55 (1000000000), Cond.fieldLink RX12 9 "WetSuitPedalsShoesModel" "s" "[I", Cond.fieldLink RX12 13 "WetSuitPedalsShoesModel" "m" "[I", Cond.methodLink RX12 136 yX12_isAthlete, Cond.instanceMethod yX12_isAthlete, Cond.selects RX12 yX12_isAthlete yX12_isAthlete, Cond.initialized RX12, Cond.code yX12_isAthlete cX12_isAthlete 2 (some .boolean), Cond.methodLink RX12 62 yX12_isIn, Cond.static yX12_isIn, Cond.code yX12_isIn cX12_isIn 3 (some .boolean), Cond.methodLink RX12 56 yX12_no, Cond.instanceMethod yX12_no, Cond.selects RX12 yX12_no yX12_no, Cond.code yX12_no cX12_no 2 (some .int), Cond.fieldLink RX12 28 "WetSuitPedalsShoesModel" "refused" "[I", Cond.methodLink RX12 149 yX12_lays, Cond.static yX12_lays, Cond.code yX12_lays cX12_lays 3 none, Cond.methodLink RX12 66 yX12_of, Cond.static yX12_of, Cond.code yX12_of cX12_of 2 (some .int), Cond.methodLink RX12 91 yX12_tried, Cond.static yX12_tried]
def wsX12_leave_r2 : List Cond := [Cond.code yX12_tried cX12_tried 2 (some .int), Cond.methodLink RX12 156 yX12_finishOf, Cond.instanceMethod yX12_finishOf, Cond.selects RX12 yX12_finishOf yX12_finishOf, Cond.code yX12_finishOf cX12_finishOf 3 (some .int), Cond.methodLink RX12 102 yX12_goes, Cond.instanceMethod yX12_goes, Cond.selects RX12 yX12_goes yX12_goes, Cond.code yX12_goes cX12_goes 7 (some .int), Cond.fieldLink RX12 31 "WetSuitPedalsShoesModel" "seconds" "[I", Cond.fieldLink RX12 34 "WetSuitPedalsShoesModel" "legs" "[I", Cond.fieldLink RX12 37 "WetSuitPedalsShoesModel" "sums" "[I", Cond.methodLink RX12 70 yX12_athleteAt, Cond.static yX12_athleteAt, Cond.code yX12_athleteAt cX12_athleteAt 2 (some .int), Cond.methodLink RX12 94 yX12_secondsBy, Cond.static yX12_secondsBy, Cond.code yX12_secondsBy cX12_secondsBy 6 (some .int), Cond.methodLink RX12 77 yX12_plain, Cond.static yX12_plain, Cond.code yX12_plain cX12_plain 7 (some .int), Cond.methodLink RX12 73 yX12_isRide, Cond.static yX12_isRide, Cond.code yX12_isRide cX12_isRide 2 (some .boolean)]
def wsX12_leave_r3 : List Cond := [Cond.methodLink RX12 98 yX12_legsBehind, Cond.static yX12_legsBehind, Cond.code yX12_legsBehind cX12_legsBehind 5 (some .int), Cond.methodLink RX12 81 yX12_takes, Cond.static yX12_takes, Cond.code yX12_takes cX12_takes 3 (some .int), Cond.methodLink RX12 85 yX12_most, Cond.static yX12_most, Cond.code yX12_most cX12_most 2 (some .int), Cond.methodLink RX12 88 yX12_least, Cond.static yX12_least, Cond.code yX12_least cX12_least 2 (some .int)]
def wsX12_leave : List Cond := .code yX12_leave cX12_leave 8 (some .int) :: ((wsX12_leave_r1 ++ (wsX12_leave_r2 ++ wsX12_leave_r3)) ++ wsX120)
def wsX12_order_r1 : List Cond := [Cond.fieldLink RX12 9 "WetSuitPedalsShoesModel" "s" "[I", Cond.fieldLink RX12 13 "WetSuitPedalsShoesModel" "m" "[I", Cond.methodLink RX12 136 yX12_isAthlete, Cond.instanceMethod yX12_isAthlete, Cond.selects RX12 yX12_isAthlete yX12_isAthlete, Cond.initialized RX12, Cond.code yX12_isAthlete cX12_isAthlete 2 (some .boolean), Cond.methodLink RX12 62 yX12_isIn, Cond.static yX12_isIn, Cond.code yX12_isIn cX12_isIn 3 (some .boolean), Cond.methodLink RX12 56 yX12_no, Cond.instanceMethod yX12_no, Cond.selects RX12 yX12_no yX12_no, Cond.code yX12_no cX12_no 2 (some .int), Cond.fieldLink RX12 28 "WetSuitPedalsShoesModel" "refused" "[I", Cond.methodLink RX12 156 yX12_finishOf, Cond.instanceMethod yX12_finishOf, Cond.selects RX12 yX12_finishOf yX12_finishOf, Cond.code yX12_finishOf cX12_finishOf 3 (some .int), Cond.methodLink RX12 102 yX12_goes, Cond.instanceMethod yX12_goes, Cond.selects RX12 yX12_goes yX12_goes, Cond.code yX12_goes cX12_goes 7 (some .int), Cond.fieldLink RX12 31 "WetSuitPedalsShoesModel" "seconds" "[I"]
def wsX12_order_r2 : List Cond := [Cond.fieldLink RX12 34 "WetSuitPedalsShoesModel" "legs" "[I", Cond.fieldLink RX12 37 "WetSuitPedalsShoesModel" "sums" "[I", Cond.methodLink RX12 70 yX12_athleteAt, Cond.static yX12_athleteAt, Cond.code yX12_athleteAt cX12_athleteAt 2 (some .int), Cond.methodLink RX12 91 yX12_tried, Cond.static yX12_tried, Cond.code yX12_tried cX12_tried 2 (some .int), Cond.methodLink RX12 94 yX12_secondsBy, Cond.static yX12_secondsBy, Cond.code yX12_secondsBy cX12_secondsBy 6 (some .int), Cond.methodLink RX12 77 yX12_plain, Cond.static yX12_plain, Cond.code yX12_plain cX12_plain 7 (some .int), Cond.methodLink RX12 66 yX12_of, Cond.static yX12_of, Cond.code yX12_of cX12_of 2 (some .int), Cond.methodLink RX12 73 yX12_isRide, Cond.static yX12_isRide, Cond.code yX12_isRide cX12_isRide 2 (some .boolean), Cond.methodLink RX12 98 yX12_legsBehind, Cond.static yX12_legsBehind, Cond.code yX12_legsBehind cX12_legsBehind 5 (some .int), Cond.methodLink RX12 81 yX12_takes]
def wsX12_order_r3 : List Cond := [Cond.static yX12_takes, Cond.code yX12_takes cX12_takes 3 (some .int), Cond.methodLink RX12 85 yX12_most, Cond.static yX12_most, Cond.code yX12_most cX12_most 2 (some .int), Cond.methodLink RX12 88 yX12_least, Cond.static yX12_least, Cond.code yX12_least cX12_least 2 (some .int), Cond.methodLink RX12 149 yX12_lays, Cond.static yX12_lays, Cond.code yX12_lays cX12_lays 3 none, Cond.methodLink RX12 142 yX12_changes, Cond.instanceMethod yX12_changes, Cond.selects RX12 yX12_changes yX12_changes, Cond.code yX12_changes cX12_changes 6 none]
def wsX12_order : List Cond := .code yX12_order cX12_order 7 (some .int) :: ((wsX12_order_r1 ++ (wsX12_order_r2 ++ wsX12_order_r3)) ++ wsX120)
def wsX12_ridesMany : List Cond := .code yX12_ridesMany cX12_ridesMany 3 (some .int) :: ([.fieldLink RX12 9 "WetSuitPedalsShoesModel" "s" "[I", .methodLink RX12 73 yX12_isRide, .static yX12_isRide, .initialized RX12, .code yX12_isRide cX12_isRide 2 (some .boolean), .methodLink RX12 66 yX12_of, .static yX12_of, .code yX12_of cX12_of 2 (some .int), .methodLink RX12 62 yX12_isIn, .static yX12_isIn, .code yX12_isIn cX12_isIn 3 (some .boolean)] ++ wsX120)
def wsX12_gcd : List Cond := .code yX12_gcd cX12_gcd 10 (some .long) :: ([])
def wsX12_partOf : List Cond := .code yX12_partOf cX12_partOf 5 (some .long) :: ([.methodLink RX12 174 yX12_gcd, .static yX12_gcd, .initialized RX12, .code yX12_gcd cX12_gcd 10 (some .long)])
def wsX12_puncture_r1 : List Cond := [Cond.fieldLink RX12 9 "WetSuitPedalsShoesModel" "s" "[I", Cond.methodLink RX12 136 yX12_isAthlete, Cond.instanceMethod yX12_isAthlete, Cond.selects RX12 yX12_isAthlete yX12_isAthlete, Cond.initialized RX12, Cond.code yX12_isAthlete cX12_isAthlete 2 (some .boolean), Cond.methodLink RX12 62 yX12_isIn, Cond.static yX12_isIn, Cond.code yX12_isIn cX12_isIn 3 (some .boolean), Cond.methodLink RX12 178 yX12_noWide, Cond.instanceMethod yX12_noWide, Cond.selects RX12 yX12_noWide yX12_noWide, Cond.code yX12_noWide cX12_noWide 2 (some .long), Cond.constantLong RX12 60 (4000000000000000000), Cond.methodLink RX12 56 yX12_no, Cond.instanceMethod yX12_no, Cond.selects RX12 yX12_no yX12_no, Cond.code yX12_no cX12_no 2 (some .int), Cond.fieldLink RX12 28 "WetSuitPedalsShoesModel" "refused" "[I", Cond.methodLink RX12 156 yX12_finishOf, Cond.instanceMethod yX12_finishOf, Cond.selects RX12 yX12_finishOf yX12_finishOf, Cond.code yX12_finishOf cX12_finishOf 3 (some .int), Cond.methodLink RX12 102 yX12_goes]
def wsX12_puncture_r2 : List Cond := [Cond.instanceMethod yX12_goes, Cond.selects RX12 yX12_goes yX12_goes, Cond.code yX12_goes cX12_goes 7 (some .int), Cond.fieldLink RX12 31 "WetSuitPedalsShoesModel" "seconds" "[I", Cond.fieldLink RX12 34 "WetSuitPedalsShoesModel" "legs" "[I", Cond.fieldLink RX12 37 "WetSuitPedalsShoesModel" "sums" "[I", Cond.methodLink RX12 70 yX12_athleteAt, Cond.static yX12_athleteAt, Cond.code yX12_athleteAt cX12_athleteAt 2 (some .int), Cond.methodLink RX12 91 yX12_tried, Cond.static yX12_tried, Cond.code yX12_tried cX12_tried 2 (some .int), Cond.methodLink RX12 94 yX12_secondsBy, Cond.static yX12_secondsBy, Cond.code yX12_secondsBy cX12_secondsBy 6 (some .int), Cond.methodLink RX12 77 yX12_plain, Cond.static yX12_plain, Cond.code yX12_plain cX12_plain 7 (some .int), Cond.methodLink RX12 66 yX12_of, Cond.static yX12_of, Cond.code yX12_of cX12_of 2 (some .int), Cond.methodLink RX12 73 yX12_isRide, Cond.static yX12_isRide, Cond.code yX12_isRide cX12_isRide 2 (some .boolean)]
def wsX12_puncture_r3 : List Cond := [Cond.methodLink RX12 98 yX12_legsBehind, Cond.static yX12_legsBehind, Cond.code yX12_legsBehind cX12_legsBehind 5 (some .int), Cond.methodLink RX12 81 yX12_takes, Cond.static yX12_takes, Cond.code yX12_takes cX12_takes 3 (some .int), Cond.methodLink RX12 85 yX12_most, Cond.static yX12_most, Cond.code yX12_most cX12_most 2 (some .int), Cond.methodLink RX12 88 yX12_least, Cond.static yX12_least, Cond.code yX12_least cX12_least 2 (some .int), Cond.methodLink RX12 182 yX12_ridesMany, Cond.instanceMethod yX12_ridesMany, Cond.selects RX12 yX12_ridesMany yX12_ridesMany, Cond.code yX12_ridesMany cX12_ridesMany 3 (some .int), Cond.methodLink RX12 185 yX12_partOf, Cond.static yX12_partOf, Cond.code yX12_partOf cX12_partOf 5 (some .long), Cond.methodLink RX12 174 yX12_gcd, Cond.static yX12_gcd, Cond.code yX12_gcd cX12_gcd 10 (some .long)]
def wsX12_puncture : List Cond := .code yX12_puncture cX12_puncture 18 (some .long) :: ((wsX12_puncture_r1 ++ (wsX12_puncture_r2 ++ wsX12_puncture_r3)) ++ wsX120)
def wsX12_mean_r1 : List Cond := [Cond.fieldLink RX12 9 "WetSuitPedalsShoesModel" "s" "[I", Cond.methodLink RX12 136 yX12_isAthlete, Cond.instanceMethod yX12_isAthlete, Cond.selects RX12 yX12_isAthlete yX12_isAthlete, Cond.initialized RX12, Cond.code yX12_isAthlete cX12_isAthlete 2 (some .boolean), Cond.methodLink RX12 62 yX12_isIn, Cond.static yX12_isIn, Cond.code yX12_isIn cX12_isIn 3 (some .boolean), Cond.methodLink RX12 178 yX12_noWide, Cond.instanceMethod yX12_noWide, Cond.selects RX12 yX12_noWide yX12_noWide, Cond.code yX12_noWide cX12_noWide 2 (some .long), Cond.constantLong RX12 60 (4000000000000000000), Cond.methodLink RX12 56 yX12_no, Cond.instanceMethod yX12_no, Cond.selects RX12 yX12_no yX12_no, Cond.code yX12_no cX12_no 2 (some .int), Cond.fieldLink RX12 28 "WetSuitPedalsShoesModel" "refused" "[I", Cond.methodLink RX12 156 yX12_finishOf, Cond.instanceMethod yX12_finishOf, Cond.selects RX12 yX12_finishOf yX12_finishOf, Cond.code yX12_finishOf cX12_finishOf 3 (some .int), Cond.methodLink RX12 102 yX12_goes]
def wsX12_mean_r2 : List Cond := [Cond.instanceMethod yX12_goes, Cond.selects RX12 yX12_goes yX12_goes, Cond.code yX12_goes cX12_goes 7 (some .int), Cond.fieldLink RX12 31 "WetSuitPedalsShoesModel" "seconds" "[I", Cond.fieldLink RX12 34 "WetSuitPedalsShoesModel" "legs" "[I", Cond.fieldLink RX12 37 "WetSuitPedalsShoesModel" "sums" "[I", Cond.methodLink RX12 70 yX12_athleteAt, Cond.static yX12_athleteAt, Cond.code yX12_athleteAt cX12_athleteAt 2 (some .int), Cond.methodLink RX12 91 yX12_tried, Cond.static yX12_tried, Cond.code yX12_tried cX12_tried 2 (some .int), Cond.methodLink RX12 94 yX12_secondsBy, Cond.static yX12_secondsBy, Cond.code yX12_secondsBy cX12_secondsBy 6 (some .int), Cond.methodLink RX12 77 yX12_plain, Cond.static yX12_plain, Cond.code yX12_plain cX12_plain 7 (some .int), Cond.methodLink RX12 66 yX12_of, Cond.static yX12_of, Cond.code yX12_of cX12_of 2 (some .int), Cond.methodLink RX12 73 yX12_isRide, Cond.static yX12_isRide, Cond.code yX12_isRide cX12_isRide 2 (some .boolean)]
def wsX12_mean_r3 : List Cond := [Cond.methodLink RX12 98 yX12_legsBehind, Cond.static yX12_legsBehind, Cond.code yX12_legsBehind cX12_legsBehind 5 (some .int), Cond.methodLink RX12 81 yX12_takes, Cond.static yX12_takes, Cond.code yX12_takes cX12_takes 3 (some .int), Cond.methodLink RX12 85 yX12_most, Cond.static yX12_most, Cond.code yX12_most cX12_most 2 (some .int), Cond.methodLink RX12 88 yX12_least, Cond.static yX12_least, Cond.code yX12_least cX12_least 2 (some .int), Cond.methodLink RX12 182 yX12_ridesMany, Cond.instanceMethod yX12_ridesMany, Cond.selects RX12 yX12_ridesMany yX12_ridesMany, Cond.code yX12_ridesMany cX12_ridesMany 3 (some .int), Cond.methodLink RX12 185 yX12_partOf, Cond.static yX12_partOf, Cond.code yX12_partOf cX12_partOf 5 (some .long), Cond.methodLink RX12 174 yX12_gcd, Cond.static yX12_gcd, Cond.code yX12_gcd cX12_gcd 10 (some .long)]
def wsX12_mean : List Cond := .code yX12_mean cX12_mean 5 (some .long) :: ((wsX12_mean_r1 ++ (wsX12_mean_r2 ++ wsX12_mean_r3)) ++ wsX120)
def wsX12_tube : List Cond := .code yX12_tube cX12_tube 4 (some .int) :: ([.methodLink RX12 136 yX12_isAthlete, .instanceMethod yX12_isAthlete, .selects RX12 yX12_isAthlete yX12_isAthlete, .initialized RX12, .code yX12_isAthlete cX12_isAthlete 2 (some .boolean), .fieldLink RX12 9 "WetSuitPedalsShoesModel" "s" "[I", .methodLink RX12 62 yX12_isIn, .static yX12_isIn, .code yX12_isIn cX12_isIn 3 (some .boolean), .methodLink RX12 56 yX12_no, .instanceMethod yX12_no, .selects RX12 yX12_no yX12_no, .code yX12_no cX12_no 2 (some .int), .fieldLink RX12 28 "WetSuitPedalsShoesModel" "refused" "[I", .methodLink RX12 182 yX12_ridesMany, .instanceMethod yX12_ridesMany, .selects RX12 yX12_ridesMany yX12_ridesMany, .code yX12_ridesMany cX12_ridesMany 3 (some .int), .methodLink RX12 73 yX12_isRide, .static yX12_isRide, .code yX12_isRide cX12_isRide 2 (some .boolean), .methodLink RX12 66 yX12_of, .static yX12_of, .code yX12_of cX12_of 2 (some .int)] ++ wsX120)
def wsX12_draw_r1 : List Cond := [Cond.fieldLink RX12 9 "WetSuitPedalsShoesModel" "s" "[I", Cond.constant RX12 55 (1000000000), Cond.methodLink RX12 136 yX12_isAthlete, Cond.instanceMethod yX12_isAthlete, Cond.selects RX12 yX12_isAthlete yX12_isAthlete, Cond.initialized RX12, Cond.code yX12_isAthlete cX12_isAthlete 2 (some .boolean), Cond.methodLink RX12 62 yX12_isIn, Cond.static yX12_isIn, Cond.code yX12_isIn cX12_isIn 3 (some .boolean), Cond.methodLink RX12 56 yX12_no, Cond.instanceMethod yX12_no, Cond.selects RX12 yX12_no yX12_no, Cond.code yX12_no cX12_no 2 (some .int), Cond.fieldLink RX12 28 "WetSuitPedalsShoesModel" "refused" "[I", Cond.methodLink RX12 156 yX12_finishOf, Cond.instanceMethod yX12_finishOf, Cond.selects RX12 yX12_finishOf yX12_finishOf, Cond.code yX12_finishOf cX12_finishOf 3 (some .int), Cond.methodLink RX12 102 yX12_goes, Cond.instanceMethod yX12_goes, Cond.selects RX12 yX12_goes yX12_goes, Cond.code yX12_goes cX12_goes 7 (some .int), Cond.fieldLink RX12 31 "WetSuitPedalsShoesModel" "seconds" "[I"]
def wsX12_draw_r2 : List Cond := [Cond.fieldLink RX12 34 "WetSuitPedalsShoesModel" "legs" "[I", Cond.fieldLink RX12 37 "WetSuitPedalsShoesModel" "sums" "[I", Cond.methodLink RX12 70 yX12_athleteAt, Cond.static yX12_athleteAt, Cond.code yX12_athleteAt cX12_athleteAt 2 (some .int), Cond.methodLink RX12 91 yX12_tried, Cond.static yX12_tried, Cond.code yX12_tried cX12_tried 2 (some .int), Cond.methodLink RX12 94 yX12_secondsBy, Cond.static yX12_secondsBy, Cond.code yX12_secondsBy cX12_secondsBy 6 (some .int), Cond.methodLink RX12 77 yX12_plain, Cond.static yX12_plain, Cond.code yX12_plain cX12_plain 7 (some .int), Cond.methodLink RX12 66 yX12_of, Cond.static yX12_of, Cond.code yX12_of cX12_of 2 (some .int), Cond.methodLink RX12 73 yX12_isRide, Cond.static yX12_isRide, Cond.code yX12_isRide cX12_isRide 2 (some .boolean), Cond.methodLink RX12 98 yX12_legsBehind, Cond.static yX12_legsBehind, Cond.code yX12_legsBehind cX12_legsBehind 5 (some .int), Cond.methodLink RX12 81 yX12_takes]
def wsX12_draw_r3 : List Cond := [Cond.static yX12_takes, Cond.code yX12_takes cX12_takes 3 (some .int), Cond.methodLink RX12 85 yX12_most, Cond.static yX12_most, Cond.code yX12_most cX12_most 2 (some .int), Cond.methodLink RX12 88 yX12_least, Cond.static yX12_least, Cond.code yX12_least cX12_least 2 (some .int)]
def wsX12_draw : List Cond := .code yX12_draw cX12_draw 8 (some .int) :: ((wsX12_draw_r1 ++ (wsX12_draw_r2 ++ wsX12_draw_r3)) ++ wsX120)
def wsX12_finishAgainst_r1 : List Cond := [Cond.fieldLink RX12 9 "WetSuitPedalsShoesModel" "s" "[I", Cond.fieldLink RX12 13 "WetSuitPedalsShoesModel" "m" "[I", Cond.methodLink RX12 149 yX12_lays, Cond.static yX12_lays, Cond.initialized RX12, Cond.code yX12_lays cX12_lays 3 none, Cond.methodLink RX12 91 yX12_tried, Cond.static yX12_tried, Cond.code yX12_tried cX12_tried 2 (some .int), Cond.methodLink RX12 156 yX12_finishOf, Cond.instanceMethod yX12_finishOf, Cond.selects RX12 yX12_finishOf yX12_finishOf, Cond.code yX12_finishOf cX12_finishOf 3 (some .int), Cond.methodLink RX12 102 yX12_goes, Cond.instanceMethod yX12_goes, Cond.selects RX12 yX12_goes yX12_goes, Cond.code yX12_goes cX12_goes 7 (some .int), Cond.fieldLink RX12 31 "WetSuitPedalsShoesModel" "seconds" "[I", Cond.fieldLink RX12 34 "WetSuitPedalsShoesModel" "legs" "[I", Cond.fieldLink RX12 37 "WetSuitPedalsShoesModel" "sums" "[I", Cond.methodLink RX12 70 yX12_athleteAt, Cond.static yX12_athleteAt, Cond.code yX12_athleteAt cX12_athleteAt 2 (some .int), Cond.methodLink RX12 94 yX12_secondsBy]
def wsX12_finishAgainst_r2 : List Cond := [Cond.static yX12_secondsBy, Cond.code yX12_secondsBy cX12_secondsBy 6 (some .int), Cond.methodLink RX12 77 yX12_plain, Cond.static yX12_plain, Cond.code yX12_plain cX12_plain 7 (some .int), Cond.methodLink RX12 66 yX12_of, Cond.static yX12_of, Cond.code yX12_of cX12_of 2 (some .int), Cond.methodLink RX12 73 yX12_isRide, Cond.static yX12_isRide, Cond.code yX12_isRide cX12_isRide 2 (some .boolean), Cond.methodLink RX12 62 yX12_isIn, Cond.static yX12_isIn, Cond.code yX12_isIn cX12_isIn 3 (some .boolean), Cond.methodLink RX12 98 yX12_legsBehind, Cond.static yX12_legsBehind, Cond.code yX12_legsBehind cX12_legsBehind 5 (some .int), Cond.methodLink RX12 81 yX12_takes, Cond.static yX12_takes, Cond.code yX12_takes cX12_takes 3 (some .int), Cond.methodLink RX12 85 yX12_most, Cond.static yX12_most, Cond.code yX12_most cX12_most 2 (some .int), Cond.methodLink RX12 88 yX12_least]
def wsX12_finishAgainst_r3 : List Cond := [Cond.static yX12_least, Cond.code yX12_least cX12_least 2 (some .int)]
def wsX12_finishAgainst : List Cond := .code yX12_finishAgainst cX12_finishAgainst 5 (some .int) :: ((wsX12_finishAgainst_r1 ++ (wsX12_finishAgainst_r2 ++ wsX12_finishAgainst_r3)) ++ wsX120)
def wsX12_two_r1 : List Cond := [Cond.methodLink RX12 136 yX12_isAthlete, Cond.instanceMethod yX12_isAthlete, Cond.selects RX12 yX12_isAthlete yX12_isAthlete, Cond.initialized RX12, Cond.code yX12_isAthlete cX12_isAthlete 2 (some .boolean), Cond.fieldLink RX12 9 "WetSuitPedalsShoesModel" "s" "[I", Cond.methodLink RX12 62 yX12_isIn, Cond.static yX12_isIn, Cond.code yX12_isIn cX12_isIn 3 (some .boolean), Cond.methodLink RX12 139 yX12_isSection, Cond.instanceMethod yX12_isSection, Cond.selects RX12 yX12_isSection yX12_isSection, Cond.code yX12_isSection cX12_isSection 2 (some .boolean), Cond.methodLink RX12 56 yX12_no, Cond.instanceMethod yX12_no, Cond.selects RX12 yX12_no yX12_no, Cond.code yX12_no cX12_no 2 (some .int), Cond.fieldLink RX12 28 "WetSuitPedalsShoesModel" "refused" "[I", Cond.methodLink RX12 189 yX12_finishAgainst, Cond.instanceMethod yX12_finishAgainst, Cond.selects RX12 yX12_finishAgainst yX12_finishAgainst, Cond.code yX12_finishAgainst cX12_finishAgainst 5 (some .int), Cond.fieldLink RX12 13 "WetSuitPedalsShoesModel" "m" "[I", Cond.methodLink RX12 149 yX12_lays]
def wsX12_two_r2 : List Cond := [Cond.static yX12_lays, Cond.code yX12_lays cX12_lays 3 none, Cond.methodLink RX12 91 yX12_tried, Cond.static yX12_tried, Cond.code yX12_tried cX12_tried 2 (some .int), Cond.methodLink RX12 156 yX12_finishOf, Cond.instanceMethod yX12_finishOf, Cond.selects RX12 yX12_finishOf yX12_finishOf, Cond.code yX12_finishOf cX12_finishOf 3 (some .int), Cond.methodLink RX12 102 yX12_goes, Cond.instanceMethod yX12_goes, Cond.selects RX12 yX12_goes yX12_goes, Cond.code yX12_goes cX12_goes 7 (some .int), Cond.fieldLink RX12 31 "WetSuitPedalsShoesModel" "seconds" "[I", Cond.fieldLink RX12 34 "WetSuitPedalsShoesModel" "legs" "[I", Cond.fieldLink RX12 37 "WetSuitPedalsShoesModel" "sums" "[I", Cond.methodLink RX12 70 yX12_athleteAt, Cond.static yX12_athleteAt, Cond.code yX12_athleteAt cX12_athleteAt 2 (some .int), Cond.methodLink RX12 94 yX12_secondsBy, Cond.static yX12_secondsBy, Cond.code yX12_secondsBy cX12_secondsBy 6 (some .int), Cond.methodLink RX12 77 yX12_plain, Cond.static yX12_plain]
def wsX12_two_r3 : List Cond := [Cond.code yX12_plain cX12_plain 7 (some .int), Cond.methodLink RX12 66 yX12_of, Cond.static yX12_of, Cond.code yX12_of cX12_of 2 (some .int), Cond.methodLink RX12 73 yX12_isRide, Cond.static yX12_isRide, Cond.code yX12_isRide cX12_isRide 2 (some .boolean), Cond.methodLink RX12 98 yX12_legsBehind, Cond.static yX12_legsBehind, Cond.code yX12_legsBehind cX12_legsBehind 5 (some .int), Cond.methodLink RX12 81 yX12_takes, Cond.static yX12_takes, Cond.code yX12_takes cX12_takes 3 (some .int), Cond.methodLink RX12 85 yX12_most, Cond.static yX12_most, Cond.code yX12_most cX12_most 2 (some .int), Cond.methodLink RX12 88 yX12_least, Cond.static yX12_least, Cond.code yX12_least cX12_least 2 (some .int)]
def wsX12_two : List Cond := .code yX12_two cX12_two 8 (some .int) :: ((wsX12_two_r1 ++ (wsX12_two_r2 ++ wsX12_two_r3)) ++ wsX120)
def wsX12_whatWas_r1 : List Cond := [Cond.fieldLink RX12 192 "WetSuitPedalsShoesModel" "rowMany" "I", Cond.fieldLink RX12 9 "WetSuitPedalsShoesModel" "s" "[I", Cond.fieldLink RX12 13 "WetSuitPedalsShoesModel" "m" "[I", Cond.fieldLink RX12 31 "WetSuitPedalsShoesModel" "seconds" "[I", Cond.fieldLink RX12 25 "WetSuitPedalsShoesModel" "row" "[I", Cond.methodLink RX12 139 yX12_isSection, Cond.instanceMethod yX12_isSection, Cond.selects RX12 yX12_isSection yX12_isSection, Cond.initialized RX12, Cond.code yX12_isSection cX12_isSection 2 (some .boolean), Cond.methodLink RX12 62 yX12_isIn, Cond.static yX12_isIn, Cond.code yX12_isIn cX12_isIn 3 (some .boolean), Cond.methodLink RX12 56 yX12_no, Cond.instanceMethod yX12_no, Cond.selects RX12 yX12_no yX12_no, Cond.code yX12_no cX12_no 2 (some .int), Cond.fieldLink RX12 28 "WetSuitPedalsShoesModel" "refused" "[I", Cond.methodLink RX12 149 yX12_lays, Cond.static yX12_lays, Cond.code yX12_lays cX12_lays 3 none, Cond.methodLink RX12 66 yX12_of, Cond.static yX12_of, Cond.code yX12_of cX12_of 2 (some .int)]
def wsX12_whatWas_r2 : List Cond := [Cond.methodLink RX12 156 yX12_finishOf, Cond.instanceMethod yX12_finishOf, Cond.selects RX12 yX12_finishOf yX12_finishOf, Cond.code yX12_finishOf cX12_finishOf 3 (some .int), Cond.methodLink RX12 102 yX12_goes, Cond.instanceMethod yX12_goes, Cond.selects RX12 yX12_goes yX12_goes, Cond.code yX12_goes cX12_goes 7 (some .int), Cond.fieldLink RX12 34 "WetSuitPedalsShoesModel" "legs" "[I", Cond.fieldLink RX12 37 "WetSuitPedalsShoesModel" "sums" "[I", Cond.methodLink RX12 70 yX12_athleteAt, Cond.static yX12_athleteAt, Cond.code yX12_athleteAt cX12_athleteAt 2 (some .int), Cond.methodLink RX12 91 yX12_tried, Cond.static yX12_tried, Cond.code yX12_tried cX12_tried 2 (some .int), Cond.methodLink RX12 94 yX12_secondsBy, Cond.static yX12_secondsBy, Cond.code yX12_secondsBy cX12_secondsBy 6 (some .int), Cond.methodLink RX12 77 yX12_plain, Cond.static yX12_plain, Cond.code yX12_plain cX12_plain 7 (some .int), Cond.methodLink RX12 73 yX12_isRide, Cond.static yX12_isRide]
def wsX12_whatWas_r3 : List Cond := [Cond.code yX12_isRide cX12_isRide 2 (some .boolean), Cond.methodLink RX12 98 yX12_legsBehind, Cond.static yX12_legsBehind, Cond.code yX12_legsBehind cX12_legsBehind 5 (some .int), Cond.methodLink RX12 81 yX12_takes, Cond.static yX12_takes, Cond.code yX12_takes cX12_takes 3 (some .int), Cond.methodLink RX12 85 yX12_most, Cond.static yX12_most, Cond.code yX12_most cX12_most 2 (some .int), Cond.methodLink RX12 88 yX12_least, Cond.static yX12_least, Cond.code yX12_least cX12_least 2 (some .int)]
def wsX12_whatWas : List Cond := .code yX12_whatWas cX12_whatWas 8 (some .int) :: ((wsX12_whatWas_r1 ++ (wsX12_whatWas_r2 ++ wsX12_whatWas_r3)) ++ wsX120)
def wsX12_row : List Cond := .code yX12_row cX12_row 2 (some .int) :: ([.fieldLink RX12 192 "WetSuitPedalsShoesModel" "rowMany" "I", .fieldLink RX12 25 "WetSuitPedalsShoesModel" "row" "[I", .methodLink RX12 56 yX12_no, .instanceMethod yX12_no, .selects RX12 yX12_no yX12_no, .initialized RX12, .code yX12_no cX12_no 2 (some .int), .fieldLink RX12 28 "WetSuitPedalsShoesModel" "refused" "[I"] ++ wsX120)
def wsX12_judge_r1 : List Cond := [Cond.fieldLink RX12 192 "WetSuitPedalsShoesModel" "rowMany" "I", Cond.fieldLink RX12 9 "WetSuitPedalsShoesModel" "s" "[I", Cond.fieldLink RX12 34 "WetSuitPedalsShoesModel" "legs" "[I", Cond.fieldLink RX12 25 "WetSuitPedalsShoesModel" "row" "[I", Cond.methodLink RX12 136 yX12_isAthlete, Cond.instanceMethod yX12_isAthlete, Cond.selects RX12 yX12_isAthlete yX12_isAthlete, Cond.initialized RX12, Cond.code yX12_isAthlete cX12_isAthlete 2 (some .boolean), Cond.methodLink RX12 62 yX12_isIn, Cond.static yX12_isIn, Cond.code yX12_isIn cX12_isIn 3 (some .boolean), Cond.methodLink RX12 56 yX12_no, Cond.instanceMethod yX12_no, Cond.selects RX12 yX12_no yX12_no, Cond.code yX12_no cX12_no 2 (some .int), Cond.fieldLink RX12 28 "WetSuitPedalsShoesModel" "refused" "[I", Cond.methodLink RX12 156 yX12_finishOf, Cond.instanceMethod yX12_finishOf, Cond.selects RX12 yX12_finishOf yX12_finishOf, Cond.code yX12_finishOf cX12_finishOf 3 (some .int), Cond.methodLink RX12 102 yX12_goes, Cond.instanceMethod yX12_goes, Cond.selects RX12 yX12_goes yX12_goes]
def wsX12_judge_r2 : List Cond := [Cond.code yX12_goes cX12_goes 7 (some .int), Cond.fieldLink RX12 31 "WetSuitPedalsShoesModel" "seconds" "[I", Cond.fieldLink RX12 37 "WetSuitPedalsShoesModel" "sums" "[I", Cond.methodLink RX12 70 yX12_athleteAt, Cond.static yX12_athleteAt, Cond.code yX12_athleteAt cX12_athleteAt 2 (some .int), Cond.methodLink RX12 91 yX12_tried, Cond.static yX12_tried, Cond.code yX12_tried cX12_tried 2 (some .int), Cond.methodLink RX12 94 yX12_secondsBy, Cond.static yX12_secondsBy, Cond.code yX12_secondsBy cX12_secondsBy 6 (some .int), Cond.methodLink RX12 77 yX12_plain, Cond.static yX12_plain, Cond.code yX12_plain cX12_plain 7 (some .int), Cond.methodLink RX12 66 yX12_of, Cond.static yX12_of, Cond.code yX12_of cX12_of 2 (some .int), Cond.methodLink RX12 73 yX12_isRide, Cond.static yX12_isRide, Cond.code yX12_isRide cX12_isRide 2 (some .boolean), Cond.methodLink RX12 98 yX12_legsBehind, Cond.static yX12_legsBehind, Cond.code yX12_legsBehind cX12_legsBehind 5 (some .int)]
def wsX12_judge_r3 : List Cond := [Cond.methodLink RX12 81 yX12_takes, Cond.static yX12_takes, Cond.code yX12_takes cX12_takes 3 (some .int), Cond.methodLink RX12 85 yX12_most, Cond.static yX12_most, Cond.code yX12_most cX12_most 2 (some .int), Cond.methodLink RX12 88 yX12_least, Cond.static yX12_least, Cond.code yX12_least cX12_least 2 (some .int)]
def wsX12_judge : List Cond := .code yX12_judge cX12_judge 5 (some .int) :: ((wsX12_judge_r1 ++ (wsX12_judge_r2 ++ wsX12_judge_r3)) ++ wsX120)
def wsX12_clear : List Cond := .code yX12_clear cX12_clear 2 (some .int) :: ([.fieldLink RX12 192 "WetSuitPedalsShoesModel" "rowMany" "I"] ++ wsX120)
def wsX12_drawn : List Cond := .code yX12_drawn cX12_drawn 2 (some .int) :: ([.fieldLink RX12 195 "WetSuitPedalsShoesModel" "seed" "I", .constant RX12 198 (1664525), .constant RX12 199 (1013904223), .constant RX12 200 (2147483647)] ++ wsX120)
def wsX12_lots_r1 : List Cond := [Cond.fieldLink RX12 9 "WetSuitPedalsShoesModel" "s" "[I", Cond.fieldLink RX12 195 "WetSuitPedalsShoesModel" "seed" "I", Cond.fieldLink RX12 13 "WetSuitPedalsShoesModel" "m" "[I", Cond.methodLink RX12 56 yX12_no, Cond.instanceMethod yX12_no, Cond.selects RX12 yX12_no yX12_no, Cond.initialized RX12, Cond.code yX12_no cX12_no 2 (some .int), Cond.fieldLink RX12 28 "WetSuitPedalsShoesModel" "refused" "[I", Cond.methodLink RX12 62 yX12_isIn, Cond.static yX12_isIn, Cond.code yX12_isIn cX12_isIn 3 (some .boolean), Cond.methodLink RX12 149 yX12_lays, Cond.static yX12_lays, Cond.code yX12_lays cX12_lays 3 none, Cond.methodLink RX12 91 yX12_tried, Cond.static yX12_tried, Cond.code yX12_tried cX12_tried 2 (some .int), Cond.methodLink RX12 201 yX12_drawn, Cond.instanceMethod yX12_drawn, Cond.selects RX12 yX12_drawn yX12_drawn, Cond.code yX12_drawn cX12_drawn 2 (some .int), Cond.constant RX12 198 (1664525), Cond.constant RX12 199 (1013904223)]
def wsX12_lots_r2 : List Cond := [Cond.constant RX12 200 (2147483647), Cond.methodLink RX12 156 yX12_finishOf, Cond.instanceMethod yX12_finishOf, Cond.selects RX12 yX12_finishOf yX12_finishOf, Cond.code yX12_finishOf cX12_finishOf 3 (some .int), Cond.methodLink RX12 102 yX12_goes, Cond.instanceMethod yX12_goes, Cond.selects RX12 yX12_goes yX12_goes, Cond.code yX12_goes cX12_goes 7 (some .int), Cond.fieldLink RX12 31 "WetSuitPedalsShoesModel" "seconds" "[I", Cond.fieldLink RX12 34 "WetSuitPedalsShoesModel" "legs" "[I", Cond.fieldLink RX12 37 "WetSuitPedalsShoesModel" "sums" "[I", Cond.methodLink RX12 70 yX12_athleteAt, Cond.static yX12_athleteAt, Cond.code yX12_athleteAt cX12_athleteAt 2 (some .int), Cond.methodLink RX12 94 yX12_secondsBy, Cond.static yX12_secondsBy, Cond.code yX12_secondsBy cX12_secondsBy 6 (some .int), Cond.methodLink RX12 77 yX12_plain, Cond.static yX12_plain, Cond.code yX12_plain cX12_plain 7 (some .int), Cond.methodLink RX12 66 yX12_of, Cond.static yX12_of, Cond.code yX12_of cX12_of 2 (some .int)]
def wsX12_lots_r3 : List Cond := [Cond.methodLink RX12 73 yX12_isRide, Cond.static yX12_isRide, Cond.code yX12_isRide cX12_isRide 2 (some .boolean), Cond.methodLink RX12 98 yX12_legsBehind, Cond.static yX12_legsBehind, Cond.code yX12_legsBehind cX12_legsBehind 5 (some .int), Cond.methodLink RX12 81 yX12_takes, Cond.static yX12_takes, Cond.code yX12_takes cX12_takes 3 (some .int), Cond.methodLink RX12 85 yX12_most, Cond.static yX12_most, Cond.code yX12_most cX12_most 2 (some .int), Cond.methodLink RX12 88 yX12_least, Cond.static yX12_least, Cond.code yX12_least cX12_least 2 (some .int)]
def wsX12_lots : List Cond := .code yX12_lots cX12_lots 10 (some .int) :: ((wsX12_lots_r1 ++ (wsX12_lots_r2 ++ wsX12_lots_r3)) ++ wsX120)
def wsX12_image : List Cond := .code yX12_image cX12_image 1 (some .int) :: ([.fieldLink RX12 9 "WetSuitPedalsShoesModel" "s" "[I", .fieldLink RX12 16 "WetSuitPedalsShoesModel" "image" "[I", .fieldLink RX12 204 "WetSuitPedalsShoesModel" "hasImage" "Z", .methodLink RX12 149 yX12_lays, .static yX12_lays, .initialized RX12, .code yX12_lays cX12_lays 3 none] ++ wsX120)
def wsX12_on : List Cond := .code yX12_on cX12_on 1 (some .int) :: ([.fieldLink RX12 204 "WetSuitPedalsShoesModel" "hasImage" "Z", .fieldLink RX12 16 "WetSuitPedalsShoesModel" "image" "[I", .fieldLink RX12 9 "WetSuitPedalsShoesModel" "s" "[I", .methodLink RX12 56 yX12_no, .instanceMethod yX12_no, .selects RX12 yX12_no yX12_no, .initialized RX12, .code yX12_no cX12_no 2 (some .int), .fieldLink RX12 28 "WetSuitPedalsShoesModel" "refused" "[I", .methodLink RX12 149 yX12_lays, .static yX12_lays, .code yX12_lays cX12_lays 3 none] ++ wsX120)
def wsX12_count : List Cond := .code yX12_count cX12_count 5 (some .int) :: ([.fieldLink RX12 28 "WetSuitPedalsShoesModel" "refused" "[I", .fieldLink RX12 9 "WetSuitPedalsShoesModel" "s" "[I", .fieldLink RX12 192 "WetSuitPedalsShoesModel" "rowMany" "I", .fieldLink RX12 105 "WetSuitPedalsShoesModel" "letterMany" "I", .methodLink RX12 62 yX12_isIn, .static yX12_isIn, .initialized RX12, .code yX12_isIn cX12_isIn 3 (some .boolean), .methodLink RX12 66 yX12_of, .static yX12_of, .code yX12_of cX12_of 2 (some .int), .methodLink RX12 182 yX12_ridesMany, .instanceMethod yX12_ridesMany, .selects RX12 yX12_ridesMany yX12_ridesMany, .code yX12_ridesMany cX12_ridesMany 3 (some .int), .methodLink RX12 73 yX12_isRide, .static yX12_isRide, .code yX12_isRide cX12_isRide 2 (some .boolean), .methodLink RX12 91 yX12_tried, .static yX12_tried, .code yX12_tried cX12_tried 2 (some .int)] ++ wsX120)
def wsJ9_max_7cf53 : List Cond := .code yJ9_max_7cf53 cJ9_max_7cf53 2 (some .int) :: ([])
def wsJ9_min_7cf53 : List Cond := .code yJ9_min_7cf53 cJ9_min_7cf53 2 (some .int) :: ([])
theorem inJ9 : ∀ w ∈ wsJ90, w ∈ lw_tbl := by decide +kernel
theorem inJ10 : ∀ w ∈ wsJ100, w ∈ lw_tbl := by decide +kernel
set_option maxRecDepth 20000 in
theorem ggX1_become__X1_has : GoodIn wsX1_become_ wsX1_has := goodIn_r _ [7, 8, 9, 10, 11, 12] (by decide +kernel) (by decide +kernel)
set_option maxRecDepth 20000 in
theorem gX1_become__X1_has : GoodIn wsX1_become_ (wsV RX1 31 RX1 yX1_has wsX1_has) := goodIn_app (goodIn_of _ (by decide +kernel)) ggX1_become__X1_has
set_option maxRecDepth 20000 in
theorem ggX1_exchange_X1_has : GoodIn wsX1_exchange wsX1_has := goodIn_r _ [8, 9, 13, 14, 15, 16] (by decide +kernel) (by decide +kernel)
set_option maxRecDepth 20000 in
theorem gX1_exchange_X1_has : GoodIn wsX1_exchange (wsV RX1 31 RX1 yX1_has wsX1_has) := goodIn_app (goodIn_of _ (by decide +kernel)) ggX1_exchange_X1_has
set_option maxRecDepth 20000 in
theorem ggX1_exchange_X1_exchange_ : GoodIn wsX1_exchange wsX1_exchange_ := goodIn_r _ [12] (by decide +kernel) (by decide +kernel)
set_option maxRecDepth 20000 in
theorem gX1_exchange_X1_exchange_ : GoodIn wsX1_exchange (va_wsS RX1 35 yX1_exchange_ wsX1_exchange_) := goodIn_app (goodIn_of _ (by decide +kernel)) ggX1_exchange_X1_exchange_
set_option maxRecDepth 20000 in
theorem ggX1_remove_X1_has : GoodIn wsX1_remove wsX1_has := goodIn_r _ [9, 1, 10, 11, 12, 13] (by decide +kernel) (by decide +kernel)
set_option maxRecDepth 20000 in
theorem gX1_remove_X1_has : GoodIn wsX1_remove (wsV RX1 31 RX1 yX1_has wsX1_has) := goodIn_app (goodIn_of _ (by decide +kernel)) ggX1_remove_X1_has
set_option maxRecDepth 20000 in
theorem ggX1_untried_X1_isBehindRide : GoodIn wsX1_untried wsX1_isBehindRide := goodIn_r _ [9, 3, 10, 11, 12, 13, 14, 15, 16, 17] (by decide +kernel) (by decide +kernel)
set_option maxRecDepth 20000 in
theorem gX1_untried_X1_isBehindRide : GoodIn wsX1_untried (wsV RX1 44 RX1 yX1_isBehindRide wsX1_isBehindRide) := goodIn_app (goodIn_of _ (by decide +kernel)) ggX1_untried_X1_isBehindRide
set_option maxRecDepth 20000 in
theorem ggX1_isBehindRide_X4_isRide : GoodIn wsX1_isBehindRide wsX4_isRide := goodIn_r _ [5] (by decide +kernel) (by decide +kernel)
set_option maxRecDepth 20000 in
theorem gX1_isBehindRide_X4_isRide : GoodIn wsX1_isBehindRide (va_wsS RX1 47 yX4_isRide wsX4_isRide) := goodIn_app (goodIn_of _ (by decide +kernel)) ggX1_isBehindRide_X4_isRide
set_option maxRecDepth 20000 in
theorem ggX1_rides_X4_isRide : GoodIn wsX1_rides wsX4_isRide := goodIn_r _ [6] (by decide +kernel) (by decide +kernel)
set_option maxRecDepth 20000 in
theorem gX1_rides_X4_isRide : GoodIn wsX1_rides (va_wsS RX1 47 yX4_isRide wsX4_isRide) := goodIn_app (goodIn_of _ (by decide +kernel)) ggX1_rides_X4_isRide
set_option maxRecDepth 20000 in
theorem ggX2_settled_X2_isBestAgainst : GoodIn wsX2_settled wsX2_isBestAgainst := goodIn_r _ [6, 7, 8, 5, 9] (by decide +kernel) (by decide +kernel)
set_option maxRecDepth 20000 in
theorem gX2_settled_X2_isBestAgainst : GoodIn wsX2_settled (va_wsS RX2 18 yX2_isBestAgainst wsX2_isBestAgainst) := goodIn_app (goodIn_of _ (by decide +kernel)) ggX2_settled_X2_isBestAgainst
set_option maxRecDepth 20000 in
theorem ggX2_isBestAgainst_X2_hindered : GoodIn wsX2_isBestAgainst wsX2_hindered := goodIn_r _ [4] (by decide +kernel) (by decide +kernel)
set_option maxRecDepth 20000 in
theorem gX2_isBestAgainst_X2_hindered : GoodIn wsX2_isBestAgainst (va_wsS RX2 22 yX2_hindered wsX2_hindered) := goodIn_app (goodIn_of _ (by decide +kernel)) ggX2_isBestAgainst_X2_hindered
set_option maxRecDepth 20000 in
theorem ggX3_init_X1_init : GoodIn wsX3_init wsX1_init := goodIn_r _ [14, 15, 2, 3, 16, 17, 18, 19, 20, 26, 27, 28, 29] (by decide +kernel) (by decide +kernel)
set_option maxRecDepth 20000 in
theorem gX3_init_X1_init_n11 : GoodIn wsX3_init (wsX1_init) := ggX3_init_X1_init
set_option maxRecDepth 20000 in
theorem ggX3_init_X0_init : GoodIn wsX3_init wsX0_init := goodIn_r _ [22, 23, 2, 3, 17, 24, 25, 33, 34] (by decide +kernel) (by decide +kernel)
set_option maxRecDepth 20000 in
theorem gX3_init_X0_init_n28 : GoodIn wsX3_init (wsX0_init) := ggX3_init_X0_init
set_option maxRecDepth 20000 in
theorem ggX3_add_X0_start : GoodIn wsX3_add wsX0_start := goodIn_r _ [7, 8, 9, 13, 14] (by decide +kernel) (by decide +kernel)
set_option maxRecDepth 20000 in
theorem gX3_add_X0_start : GoodIn wsX3_add (wsV RX3 29 RX0 yX0_start wsX0_start) := goodIn_app (goodIn_of _ (by decide +kernel)) ggX3_add_X0_start
set_option maxRecDepth 20000 in
theorem ggX3_planTries_X3_has : GoodIn wsX3_planTries wsX3_has := goodIn_r _ [7, 8, 9, 10, 11] (by decide +kernel) (by decide +kernel)
set_option maxRecDepth 20000 in
theorem gX3_planTries_X3_has : GoodIn wsX3_planTries (wsV RX3 33 RX3 yX3_has wsX3_has) := goodIn_app (goodIn_of _ (by decide +kernel)) ggX3_planTries_X3_has
set_option maxRecDepth 20000 in
theorem ggX3_become_X1_become : GoodIn wsX3_become wsX1_become := goodIn_r _ [8, 9, 10, 11, 12, 13, 14, 15, 16, 28, 29, 30, 31] (by decide +kernel) (by decide +kernel)
set_option maxRecDepth 20000 in
theorem gX3_become_X1_become : GoodIn wsX3_become (wsV RX3 41 RX1 yX1_become wsX1_become) := goodIn_app (goodIn_of _ (by decide +kernel)) ggX3_become_X1_become
set_option maxRecDepth 20000 in
theorem ggX3_become_X0_become : GoodIn wsX3_become wsX0_become := goodIn_r _ [21, 22, 23, 12, 13, 14, 24, 32, 33] (by decide +kernel) (by decide +kernel)
set_option maxRecDepth 20000 in
theorem gX3_become_X0_become : GoodIn wsX3_become (wsV RX3 45 RX0 yX0_become wsX0_become) := goodIn_app (goodIn_of _ (by decide +kernel)) ggX3_become_X0_become
set_option maxRecDepth 20000 in
theorem ggX4_legsBehind_X4_takes : GoodIn wsX4_legsBehind wsX4_takes := goodIn_r _ [11] (by decide +kernel) (by decide +kernel)
set_option maxRecDepth 20000 in
theorem gX4_legsBehind_X4_takes : GoodIn wsX4_legsBehind (va_wsS RX4 11 yX4_takes wsX4_takes) := goodIn_app (goodIn_of _ (by decide +kernel)) ggX4_legsBehind_X4_takes
set_option maxRecDepth 20000 in
theorem ggX6_waysWithin_X6_power : GoodIn wsX6_waysWithin wsX6_power := goodIn_r _ [4] (by decide +kernel) (by decide +kernel)
set_option maxRecDepth 20000 in
theorem gX6_waysWithin_X6_power : GoodIn wsX6_waysWithin (va_wsS RX6 7 yX6_power wsX6_power) := goodIn_app (goodIn_of _ (by decide +kernel)) ggX6_waysWithin_X6_power
set_option maxRecDepth 20000 in
theorem ggX6_partInLeastTerms_X6_commonDivisor : GoodIn wsX6_partInLeastTerms wsX6_commonDivisor := goodIn_r _ [4] (by decide +kernel) (by decide +kernel)
set_option maxRecDepth 20000 in
theorem gX6_partInLeastTerms_X6_commonDivisor : GoodIn wsX6_partInLeastTerms (va_wsS RX6 13 yX6_commonDivisor wsX6_commonDivisor) := goodIn_app (goodIn_of _ (by decide +kernel)) ggX6_partInLeastTerms_X6_commonDivisor
set_option maxRecDepth 20000 in
theorem ggX7_look_X1_untried : GoodIn wsX7_look wsX1_untried := goodIn_r _ [14, 15, 16, 17, 18, 19, 20, 21, 13, 22, 23, 24, 25, 26, 27, 28, 29, 30, 39, 40] (by decide +kernel) (by decide +kernel)
set_option maxRecDepth 20000 in
theorem gX7_look_X1_untried : GoodIn wsX7_look (wsV RX7 49 RX1 yX1_untried wsX1_untried) := goodIn_app (goodIn_of _ (by decide +kernel)) ggX7_look_X1_untried
set_option maxRecDepth 20000 in
theorem ggX7_secondsFrom_X4_legsBehind : GoodIn wsX7_secondsFrom wsX4_legsBehind := goodIn_r _ [8, 9, 10, 11, 12, 13, 14, 15, 16, 17, 7, 18] (by decide +kernel) (by decide +kernel)
set_option maxRecDepth 20000 in
theorem gX7_secondsFrom_X4_legsBehind : GoodIn wsX7_secondsFrom (va_wsS RX7 52 yX4_legsBehind wsX4_legsBehind) := goodIn_app (goodIn_of _ (by decide +kernel)) ggX7_secondsFrom_X4_legsBehind
set_option maxRecDepth 20000 in
theorem ggX7_secondsFrom_X4_secondsTrying : GoodIn wsX7_secondsFrom wsX4_secondsTrying := goodIn_r _ [21] (by decide +kernel) (by decide +kernel)
set_option maxRecDepth 20000 in
theorem gX7_secondsFrom_X4_secondsTrying : GoodIn wsX7_secondsFrom (va_wsS RX7 58 yX4_secondsTrying wsX4_secondsTrying) := goodIn_app (goodIn_of _ (by decide +kernel)) ggX7_secondsFrom_X4_secondsTrying
set_option maxRecDepth 20000 in
theorem ggX7_easiestBest_X7_secondsFrom : GoodIn wsX7_easiestBest wsX7_secondsFrom := goodIn_r _ [5, 6, 7, 8, 9, 10, 11, 12, 13, 14, 15, 16, 17, 18, 19, 20, 21, 22, 23, 24, 25, 26, 27, 28, 29, 30, 31, 32, 33, 34] (by decide +kernel) (by decide +kernel)
set_option maxRecDepth 20000 in
theorem gX7_easiestBest_X7_secondsFrom : GoodIn wsX7_easiestBest (wsV RX7 62 RX7 yX7_secondsFrom wsX7_secondsFrom) := goodIn_app (goodIn_of _ (by decide +kernel)) ggX7_easiestBest_X7_secondsFrom
set_option maxRecDepth 20000 in
theorem ggX7_leastFinish_X7_easiestBest : GoodIn wsX7_leastFinish wsX7_easiestBest := goodIn_r _ [8, 9, 10, 11, 7, 12, 13, 14, 15, 1, 16, 17, 18, 19, 20, 21, 22, 23, 24, 25, 26, 27, 28, 29, 30, 31, 32, 33, 34, 35, 36, 37, 38, 39, 40] (by decide +kernel) (by decide +kernel)
set_option maxRecDepth 20000 in
theorem gX7_leastFinish_X7_easiestBest : GoodIn wsX7_leastFinish (wsV RX7 65 RX7 yX7_easiestBest wsX7_easiestBest) := goodIn_app (goodIn_of _ (by decide +kernel)) ggX7_leastFinish_X7_easiestBest
set_option maxRecDepth 20000 in
theorem ggX7_leastFinish_X7_secondsFrom : GoodIn wsX7_leastFinish wsX7_secondsFrom := goodIn_r _ [12, 13, 14, 15, 1, 16, 17, 18, 19, 20, 21, 22, 23, 24, 25, 26, 27, 28, 29, 30, 31, 32, 33, 34, 35, 36, 37, 38, 39, 40] (by decide +kernel) (by decide +kernel)
set_option maxRecDepth 20000 in
theorem gX7_leastFinish_X7_secondsFrom : GoodIn wsX7_leastFinish (wsV RX7 62 RX7 yX7_secondsFrom wsX7_secondsFrom) := goodIn_app (goodIn_of _ (by decide +kernel)) ggX7_leastFinish_X7_secondsFrom
set_option maxRecDepth 20000 in
theorem ggX7_bestTries_X7_leastFinish : GoodIn wsX7_bestTries wsX7_leastFinish := goodIn_r _ [9, 10, 2, 1, 11, 12, 13, 8, 14, 15, 16, 17, 18, 3, 4, 19, 20, 21, 22, 23, 24, 25, 26, 27, 28, 29, 30, 31, 32, 33, 34, 35, 36, 37, 38, 39, 40, 41, 42, 43, 44] (by decide +kernel) (by decide +kernel)
set_option maxRecDepth 20000 in
theorem gX7_bestTries_X7_leastFinish : GoodIn wsX7_bestTries (wsV RX7 69 RX7 yX7_leastFinish wsX7_leastFinish) := goodIn_app (goodIn_of _ (by decide +kernel)) ggX7_bestTries_X7_leastFinish
set_option maxRecDepth 20000 in
theorem ggX7_bestTries_X7_easiestBest : GoodIn wsX7_bestTries wsX7_easiestBest := goodIn_r _ [14, 15, 16, 17, 8, 18, 3, 4, 19, 10, 20, 21, 22, 23, 24, 25, 26, 27, 28, 29, 30, 31, 32, 33, 34, 35, 36, 37, 38, 39, 40, 41, 42, 43, 44] (by decide +kernel) (by decide +kernel)
set_option maxRecDepth 20000 in
theorem gX7_bestTries_X7_easiestBest : GoodIn wsX7_bestTries (wsV RX7 65 RX7 yX7_easiestBest wsX7_easiestBest) := goodIn_app (goodIn_of _ (by decide +kernel)) ggX7_bestTries_X7_easiestBest
set_option maxRecDepth 20000 in
theorem ggX7_bestTries_X4_legsBehind : GoodIn wsX7_bestTries wsX4_legsBehind := goodIn_r _ [23, 24, 25, 26, 27, 28, 29, 30, 31, 32, 22, 33] (by decide +kernel) (by decide +kernel)
set_option maxRecDepth 20000 in
theorem gX7_bestTries_X4_legsBehind : GoodIn wsX7_bestTries (va_wsS RX7 52 yX4_legsBehind wsX4_legsBehind) := goodIn_app (goodIn_of _ (by decide +kernel)) ggX7_bestTries_X4_legsBehind
set_option maxRecDepth 20000 in
theorem ggX7_fewestTries_X7_emptyNext : GoodIn wsX7_fewestTries wsX7_emptyNext := goodIn_r _ [8, 1, 9, 44, 45, 46, 47, 48, 49, 50, 51] (by decide +kernel) (by decide +kernel)
set_option maxRecDepth 20000 in
theorem gX7_fewestTries_X7_emptyNext : GoodIn wsX7_fewestTries (wsV RX7 73 RX7 yX7_emptyNext wsX7_emptyNext) := goodIn_app (goodIn_of _ (by decide +kernel)) ggX7_fewestTries_X7_emptyNext
set_option maxRecDepth 20000 in
theorem ggX7_fewestTries_X7_takeNext : GoodIn wsX7_fewestTries wsX7_takeNext := goodIn_r _ [13, 14, 1, 4, 5, 6, 7, 8, 9, 44, 45, 46, 47, 48, 49, 50, 51] (by decide +kernel) (by decide +kernel)
set_option maxRecDepth 20000 in
theorem gX7_fewestTries_X7_takeNext : GoodIn wsX7_fewestTries (wsV RX7 76 RX7 yX7_takeNext wsX7_takeNext) := goodIn_app (goodIn_of _ (by decide +kernel)) ggX7_fewestTries_X7_takeNext
set_option maxRecDepth 20000 in
theorem ggX7_fewestTries_X7_goOnFrom : GoodIn wsX7_fewestTries wsX7_goOnFrom := goodIn_r _ [18, 14, 19, 20, 21, 7, 22, 23, 24, 25, 1, 26, 27, 28, 29, 30, 31, 32, 33, 34, 35, 36, 37, 38, 39, 40, 41, 42, 43, 44, 45, 46, 47, 48, 49, 50, 51] (by decide +kernel) (by decide +kernel)
set_option maxRecDepth 20000 in
theorem gX7_fewestTries_X7_goOnFrom : GoodIn wsX7_fewestTries (wsV RX7 79 RX7 yX7_goOnFrom wsX7_goOnFrom) := goodIn_app (goodIn_of _ (by decide +kernel)) ggX7_fewestTries_X7_goOnFrom
set_option maxRecDepth 20000 in
theorem ggX7_takeNext_X7_emptyNext : GoodIn wsX7_takeNext wsX7_emptyNext := goodIn_r _ [7, 2, 8, 9, 10, 11, 12, 13, 14, 15, 16] (by decide +kernel) (by decide +kernel)
set_option maxRecDepth 20000 in
theorem gX7_takeNext_X7_emptyNext : GoodIn wsX7_takeNext (wsV RX7 73 RX7 yX7_emptyNext wsX7_emptyNext) := goodIn_app (goodIn_of _ (by decide +kernel)) ggX7_takeNext_X7_emptyNext
set_option maxRecDepth 20000 in
theorem ggX7_goOnFrom_X7_goOnFromLegs : GoodIn wsX7_goOnFrom wsX7_goOnFromLegs := goodIn_r _ [6, 7, 8, 9, 10, 11, 12, 13, 14, 15, 16, 17, 18, 19, 20, 21, 22, 23, 24, 25, 26, 27, 28, 29, 30, 31, 32, 33, 34, 35, 36] (by decide +kernel) (by decide +kernel)
set_option maxRecDepth 20000 in
theorem gX7_goOnFrom_X7_goOnFromLegs : GoodIn wsX7_goOnFrom (wsV RX7 84 RX7 yX7_goOnFromLegs wsX7_goOnFromLegs) := goodIn_app (goodIn_of _ (by decide +kernel)) ggX7_goOnFrom_X7_goOnFromLegs
set_option maxRecDepth 20000 in
theorem ggX7_goOnFromLegs_X4_legsBehind : GoodIn wsX7_goOnFromLegs wsX4_legsBehind := goodIn_r _ [12, 13, 14, 7, 15, 16, 6, 8, 17, 18, 11, 19] (by decide +kernel) (by decide +kernel)
set_option maxRecDepth 20000 in
theorem gX7_goOnFromLegs_X4_legsBehind : GoodIn wsX7_goOnFromLegs (va_wsS RX7 52 yX4_legsBehind wsX4_legsBehind) := goodIn_app (goodIn_of _ (by decide +kernel)) ggX7_goOnFromLegs_X4_legsBehind
set_option maxRecDepth 20000 in
theorem ggX7_goOnFromLegs_X4_secondsTrying : GoodIn wsX7_goOnFromLegs wsX4_secondsTrying := goodIn_r _ [22] (by decide +kernel) (by decide +kernel)
set_option maxRecDepth 20000 in
theorem gX7_goOnFromLegs_X4_secondsTrying : GoodIn wsX7_goOnFromLegs (va_wsS RX7 58 yX4_secondsTrying wsX4_secondsTrying) := goodIn_app (goodIn_of _ (by decide +kernel)) ggX7_goOnFromLegs_X4_secondsTrying
set_option maxRecDepth 20000 in
theorem ggX9_faultIn_X9_placeOfBadLetter : GoodIn wsX9_faultIn wsX9_placeOfBadLetter := goodIn_r _ [5, 6, 7, 8, 9, 4, 10, 11, 12, 13, 14, 15, 16, 17, 18, 19, 20, 48, 49] (by decide +kernel) (by decide +kernel)
set_option maxRecDepth 20000 in
theorem gX9_faultIn_X9_placeOfBadLetter : GoodIn wsX9_faultIn (wsV RX9 19 RX9 yX9_placeOfBadLetter wsX9_placeOfBadLetter) := goodIn_app (goodIn_of _ (by decide +kernel)) ggX9_faultIn_X9_placeOfBadLetter
set_option maxRecDepth 20000 in
theorem ggX9_faultIn_X9_placeOfBadStatement : GoodIn wsX9_faultIn wsX9_placeOfBadStatement := goodIn_r _ [24, 25, 26, 27, 6, 28, 29, 30, 4, 31, 7, 32, 33, 34, 35, 36, 37, 38, 39, 40, 41, 42, 43, 44, 45, 46, 47, 50, 51, 52, 53, 54, 55, 56, 48, 49] (by decide +kernel) (by decide +kernel)
set_option maxRecDepth 20000 in
theorem gX9_faultIn_X9_placeOfBadStatement : GoodIn wsX9_faultIn (wsV RX9 23 RX9 yX9_placeOfBadStatement wsX9_placeOfBadStatement) := goodIn_app (goodIn_of _ (by decide +kernel)) ggX9_faultIn_X9_placeOfBadStatement
set_option maxRecDepth 20000 in
theorem ggX9_placeOfBadLetter_X9_leastInside : GoodIn wsX9_placeOfBadLetter wsX9_leastInside := goodIn_r _ [6] (by decide +kernel) (by decide +kernel)
set_option maxRecDepth 20000 in
theorem gX9_placeOfBadLetter_X9_leastInside : GoodIn wsX9_placeOfBadLetter (va_wsS RX9 27 yX9_leastInside wsX9_leastInside) := goodIn_app (goodIn_of _ (by decide +kernel)) ggX9_placeOfBadLetter_X9_leastInside
set_option maxRecDepth 20000 in
theorem ggX9_placeOfBadLetter_X9_fits : GoodIn wsX9_placeOfBadLetter wsX9_fits := goodIn_r _ [9, 3, 4, 5, 6, 10, 11, 12, 13, 14, 15, 16] (by decide +kernel) (by decide +kernel)
set_option maxRecDepth 20000 in
theorem gX9_placeOfBadLetter_X9_fits : GoodIn wsX9_placeOfBadLetter (va_wsS RX9 31 yX9_fits wsX9_fits) := goodIn_app (goodIn_of _ (by decide +kernel)) ggX9_placeOfBadLetter_X9_fits
set_option maxRecDepth 20000 in
theorem ggX9_mostInside_X9_leastInside : GoodIn wsX9_mostInside wsX9_leastInside := goodIn_r _ [4] (by decide +kernel) (by decide +kernel)
set_option maxRecDepth 20000 in
theorem gX9_mostInside_X9_leastInside : GoodIn wsX9_mostInside (va_wsS RX9 27 yX9_leastInside wsX9_leastInside) := goodIn_app (goodIn_of _ (by decide +kernel)) ggX9_mostInside_X9_leastInside
set_option maxRecDepth 20000 in
theorem ggX9_fits_X9_leastInside : GoodIn wsX9_fits wsX9_leastInside := goodIn_r _ [4] (by decide +kernel) (by decide +kernel)
set_option maxRecDepth 20000 in
theorem gX9_fits_X9_leastInside : GoodIn wsX9_fits (va_wsS RX9 27 yX9_leastInside wsX9_leastInside) := goodIn_app (goodIn_of _ (by decide +kernel)) ggX9_fits_X9_leastInside
set_option maxRecDepth 20000 in
theorem ggX9_fits_X9_mostInside : GoodIn wsX9_fits wsX9_mostInside := goodIn_r _ [7, 1, 2, 3, 4] (by decide +kernel) (by decide +kernel)
set_option maxRecDepth 20000 in
theorem gX9_fits_X9_mostInside : GoodIn wsX9_fits (va_wsS RX9 35 yX9_mostInside wsX9_mostInside) := goodIn_app (goodIn_of _ (by decide +kernel)) ggX9_fits_X9_mostInside
set_option maxRecDepth 20000 in
theorem ggX9_fits_X4_ofLetter : GoodIn wsX9_fits wsX4_ofLetter := goodIn_r _ [11] (by decide +kernel) (by decide +kernel)
set_option maxRecDepth 20000 in
theorem gX9_fits_X4_ofLetter : GoodIn wsX9_fits (va_wsS RX9 38 yX4_ofLetter wsX4_ofLetter) := goodIn_app (goodIn_of _ (by decide +kernel)) ggX9_fits_X4_ofLetter
set_option maxRecDepth 20000 in
theorem ggX9_placeOfBadStatement_X9_endOf : GoodIn wsX9_placeOfBadStatement wsX9_endOf := goodIn_r _ [9, 4, 10, 34, 35] (by decide +kernel) (by decide +kernel)
set_option maxRecDepth 20000 in
theorem gX9_placeOfBadStatement_X9_endOf : GoodIn wsX9_placeOfBadStatement (wsV RX9 53 RX9 yX9_endOf wsX9_endOf) := goodIn_app (goodIn_of _ (by decide +kernel)) ggX9_placeOfBadStatement_X9_endOf
set_option maxRecDepth 20000 in
theorem ggX9_placeOfBadStatement_X9_isAsItMustBe : GoodIn wsX9_placeOfBadStatement wsX9_isAsItMustBe := goodIn_r _ [14, 15, 16, 17, 8, 18, 4, 10, 19, 20, 21, 22, 23, 24, 25, 26, 34, 35] (by decide +kernel) (by decide +kernel)
set_option maxRecDepth 20000 in
theorem gX9_placeOfBadStatement_X9_isAsItMustBe : GoodIn wsX9_placeOfBadStatement (wsV RX9 56 RX9 yX9_isAsItMustBe wsX9_isAsItMustBe) := goodIn_app (goodIn_of _ (by decide +kernel)) ggX9_placeOfBadStatement_X9_isAsItMustBe
set_option maxRecDepth 20000 in
theorem ggX9_placeOfBadStatement_X9_letterAt : GoodIn wsX9_placeOfBadStatement wsX9_letterAt := goodIn_r _ [22, 4, 10, 34, 35] (by decide +kernel) (by decide +kernel)
set_option maxRecDepth 20000 in
theorem gX9_placeOfBadStatement_X9_letterAt : GoodIn wsX9_placeOfBadStatement (wsV RX9 60 RX9 yX9_letterAt wsX9_letterAt) := goodIn_app (goodIn_of _ (by decide +kernel)) ggX9_placeOfBadStatement_X9_letterAt
set_option maxRecDepth 20000 in
theorem ggX9_isAsItMustBe_X9_digit : GoodIn wsX9_isAsItMustBe wsX9_digit := goodIn_r _ [5, 6, 7, 16, 17] (by decide +kernel) (by decide +kernel)
set_option maxRecDepth 20000 in
theorem gX9_isAsItMustBe_X9_digit : GoodIn wsX9_isAsItMustBe (wsV RX9 63 RX9 yX9_digit wsX9_digit) := goodIn_app (goodIn_of _ (by decide +kernel)) ggX9_isAsItMustBe_X9_digit
set_option maxRecDepth 20000 in
theorem ggX9_isAsItMustBe_X9_letterAt : GoodIn wsX9_isAsItMustBe wsX9_letterAt := goodIn_r _ [11, 6, 7, 16, 17] (by decide +kernel) (by decide +kernel)
set_option maxRecDepth 20000 in
theorem gX9_isAsItMustBe_X9_letterAt : GoodIn wsX9_isAsItMustBe (wsV RX9 60 RX9 yX9_letterAt wsX9_letterAt) := goodIn_app (goodIn_of _ (by decide +kernel)) ggX9_isAsItMustBe_X9_letterAt
set_option maxRecDepth 20000 in
theorem ggX9_isAsItMustBe_X9_areTries : GoodIn wsX9_isAsItMustBe wsX9_areTries := goodIn_r _ [15, 1, 2, 3, 4, 5, 6, 7, 16, 17] (by decide +kernel) (by decide +kernel)
set_option maxRecDepth 20000 in
theorem gX9_isAsItMustBe_X9_areTries : GoodIn wsX9_isAsItMustBe (wsV RX9 66 RX9 yX9_areTries wsX9_areTries) := goodIn_app (goodIn_of _ (by decide +kernel)) ggX9_isAsItMustBe_X9_areTries
set_option maxRecDepth 20000 in
theorem ggX9_areTries_X9_digit : GoodIn wsX9_areTries wsX9_digit := goodIn_r _ [5, 6, 7, 8, 9] (by decide +kernel) (by decide +kernel)
set_option maxRecDepth 20000 in
theorem gX9_areTries_X9_digit : GoodIn wsX9_areTries (wsV RX9 63 RX9 yX9_digit wsX9_digit) := goodIn_app (goodIn_of _ (by decide +kernel)) ggX9_areTries_X9_digit
set_option maxRecDepth 20000 in
theorem ggX9_tellTo_X9_endOf : GoodIn wsX9_tellTo wsX9_endOf := goodIn_r _ [6, 1, 7, 68, 69] (by decide +kernel) (by decide +kernel)
set_option maxRecDepth 20000 in
theorem gX9_tellTo_X9_endOf : GoodIn wsX9_tellTo (wsV RX9 53 RX9 yX9_endOf wsX9_endOf) := goodIn_app (goodIn_of _ (by decide +kernel)) ggX9_tellTo_X9_endOf
set_option maxRecDepth 20000 in
theorem ggX9_tellTo_X9_tellOne : GoodIn wsX9_tellTo wsX9_tellOne := goodIn_r _ [11, 12, 13, 14, 15, 5, 16, 1, 7, 17, 18, 19, 20, 21, 22, 23, 24, 25, 26, 27, 28, 29, 30, 31, 32, 33, 34, 35, 36, 37, 38, 39, 40, 41, 42, 43, 44, 45, 46, 47, 48, 49, 50, 51, 52, 53, 54, 55, 56, 57, 58, 59, 60, 61, 62, 63, 64, 65, 66, 67, 70, 71, 72, 68, 69, 73, 74, 75, 76, 77, 78] (by decide +kernel) (by decide +kernel)
set_option maxRecDepth 20000 in
theorem gX9_tellTo_X9_tellOne : GoodIn wsX9_tellTo (wsV RX9 70 RX9 yX9_tellOne wsX9_tellOne) := goodIn_app (goodIn_of _ (by decide +kernel)) ggX9_tellTo_X9_tellOne
set_option maxRecDepth 20000 in
theorem ggX9_tellOne_X9_digit : GoodIn wsX9_tellOne wsX9_digit := goodIn_r _ [6, 7, 8, 63, 64] (by decide +kernel) (by decide +kernel)
set_option maxRecDepth 20000 in
theorem gX9_tellOne_X9_digit : GoodIn wsX9_tellOne (wsV RX9 63 RX9 yX9_digit wsX9_digit) := goodIn_app (goodIn_of _ (by decide +kernel)) ggX9_tellOne_X9_digit
set_option maxRecDepth 20000 in
theorem ggX9_tellOne_X9_letterAt : GoodIn wsX9_tellOne wsX9_letterAt := goodIn_r _ [12, 7, 8, 63, 64] (by decide +kernel) (by decide +kernel)
set_option maxRecDepth 20000 in
theorem gX9_tellOne_X9_letterAt : GoodIn wsX9_tellOne (wsV RX9 60 RX9 yX9_letterAt wsX9_letterAt) := goodIn_app (goodIn_of _ (by decide +kernel)) ggX9_tellOne_X9_letterAt
set_option maxRecDepth 20000 in
theorem ggX9_tellOne_X4_ofLetter : GoodIn wsX9_tellOne wsX4_ofLetter := goodIn_r _ [16] (by decide +kernel) (by decide +kernel)
set_option maxRecDepth 20000 in
theorem gX9_tellOne_X4_ofLetter : GoodIn wsX9_tellOne (va_wsS RX9 38 yX4_ofLetter wsX4_ofLetter) := goodIn_app (goodIn_of _ (by decide +kernel)) ggX9_tellOne_X4_ofLetter
set_option maxRecDepth 20000 in
theorem ggX9_tellOne_X1_add : GoodIn wsX9_tellOne wsX1_add := goodIn_r _ [21, 22, 23, 24, 25, 65, 66, 67, 68] (by decide +kernel) (by decide +kernel)
set_option maxRecDepth 20000 in
theorem gX9_tellOne_X1_add : GoodIn wsX9_tellOne (wsV RX9 74 RX1 yX1_add wsX1_add) := goodIn_app (goodIn_of _ (by decide +kernel)) ggX9_tellOne_X1_add
set_option maxRecDepth 20000 in
theorem ggX9_tellOne_X3_add : GoodIn wsX9_tellOne wsX3_add := goodIn_r _ [30, 31, 32, 33, 34, 35, 36, 37, 38, 39, 60, 61, 62, 69, 70] (by decide +kernel) (by decide +kernel)
set_option maxRecDepth 20000 in
theorem gX9_tellOne_X3_add : GoodIn wsX9_tellOne (wsV RX9 78 RX3 yX3_add wsX3_add) := goodIn_app (goodIn_of _ (by decide +kernel)) ggX9_tellOne_X3_add
set_option maxRecDepth 20000 in
theorem ggX9_tellOne_X3_planTries : GoodIn wsX9_tellOne wsX3_planTries := goodIn_r _ [43, 32, 44, 45, 46, 47, 29, 48, 31, 60, 61, 62, 69, 70] (by decide +kernel) (by decide +kernel)
set_option maxRecDepth 20000 in
theorem gX9_tellOne_X3_planTries : GoodIn wsX9_tellOne (wsV RX9 81 RX3 yX3_planTries wsX3_planTries) := goodIn_app (goodIn_of _ (by decide +kernel)) ggX9_tellOne_X3_planTries
set_option maxRecDepth 20000 in
theorem ggX9_tellOne_X1_exchange : GoodIn wsX9_tellOne wsX1_exchange := goodIn_r _ [52, 23, 24, 25, 53, 54, 55, 20, 56, 22, 57, 58, 59, 65, 66, 67, 68] (by decide +kernel) (by decide +kernel)
set_option maxRecDepth 20000 in
theorem gX9_tellOne_X1_exchange : GoodIn wsX9_tellOne (wsV RX9 84 RX1 yX1_exchange wsX1_exchange) := goodIn_app (goodIn_of _ (by decide +kernel)) ggX9_tellOne_X1_exchange
set_option maxRecDepth 20000 in
theorem ggX10_init_X1_init : GoodIn wsX10_init wsX1_init := goodIn_r _ [18, 19, 2, 3, 20, 13, 21, 22, 23, 29, 30, 31, 32] (by decide +kernel) (by decide +kernel)
set_option maxRecDepth 20000 in
theorem gX10_init_X1_init_n11 : GoodIn wsX10_init (wsX1_init) := ggX10_init_X1_init
set_option maxRecDepth 20000 in
theorem ggX10_init_X0_init : GoodIn wsX10_init wsX0_init := goodIn_r _ [25, 26, 2, 3, 13, 27, 28, 39, 40] (by decide +kernel) (by decide +kernel)
set_option maxRecDepth 20000 in
theorem gX10_init_X0_init_n20 : GoodIn wsX10_init (wsX0_init) := ggX10_init_X0_init
set_option maxRecDepth 20000 in
theorem ggX10_load_X1_become : GoodIn wsX10_load wsX1_become := goodIn_r _ [8, 9, 10, 11, 12, 13, 14, 15, 16, 31, 32, 33, 34] (by decide +kernel) (by decide +kernel)
set_option maxRecDepth 20000 in
theorem gX10_load_X1_become : GoodIn wsX10_load (wsV RX10 39 RX1 yX1_become wsX1_become) := goodIn_app (goodIn_of _ (by decide +kernel)) ggX10_load_X1_become
set_option maxRecDepth 20000 in
theorem ggX10_load_X0_become : GoodIn wsX10_load wsX0_become := goodIn_r _ [21, 22, 23, 12, 13, 14, 24, 35, 36] (by decide +kernel) (by decide +kernel)
set_option maxRecDepth 20000 in
theorem gX10_load_X0_become : GoodIn wsX10_load (wsV RX10 43 RX0 yX0_become wsX0_become) := goodIn_app (goodIn_of _ (by decide +kernel)) ggX10_load_X0_become
set_option maxRecDepth 20000 in
theorem ggX10_run_X1_untried : GoodIn wsX10_run wsX1_untried := goodIn_r _ [20, 21, 22, 23, 24, 25, 26, 27, 19, 28, 29, 30, 31, 32, 54, 55, 56, 57, 52, 53] (by decide +kernel) (by decide +kernel)
set_option maxRecDepth 20000 in
theorem gX10_run_X1_untried : GoodIn wsX10_run (wsV RX10 55 RX1 yX1_untried wsX1_untried) := goodIn_app (goodIn_of _ (by decide +kernel)) ggX10_run_X1_untried
set_option maxRecDepth 20000 in
theorem ggX10_run_X4_secondsTrying : GoodIn wsX10_run wsX4_secondsTrying := goodIn_r _ [35] (by decide +kernel) (by decide +kernel)
set_option maxRecDepth 20000 in
theorem gX10_run_X4_secondsTrying : GoodIn wsX10_run (va_wsS RX10 59 yX4_secondsTrying wsX4_secondsTrying) := goodIn_app (goodIn_of _ (by decide +kernel)) ggX10_run_X4_secondsTrying
set_option maxRecDepth 20000 in
theorem ggX10_run_X4_legsBehind : GoodIn wsX10_run wsX4_legsBehind := goodIn_r _ [38, 39, 40, 12, 41, 42, 11, 13, 43, 44, 31, 45] (by decide +kernel) (by decide +kernel)
set_option maxRecDepth 20000 in
theorem gX10_run_X4_legsBehind : GoodIn wsX10_run (va_wsS RX10 71 yX4_legsBehind wsX4_legsBehind) := goodIn_app (goodIn_of _ (by decide +kernel)) ggX10_run_X4_legsBehind
set_option maxRecDepth 20000 in
theorem ggX10_rideAt_X4_isRide : GoodIn wsX10_rideAt wsX4_isRide := goodIn_r _ [9] (by decide +kernel) (by decide +kernel)
set_option maxRecDepth 20000 in
theorem gX10_rideAt_X4_isRide : GoodIn wsX10_rideAt (va_wsS RX10 81 yX4_isRide wsX4_isRide) := goodIn_app (goodIn_of _ (by decide +kernel)) ggX10_rideAt_X4_isRide
set_option maxRecDepth 20000 in
theorem ggX10_leaveOut_X1_has : GoodIn wsX10_leaveOut wsX1_has := goodIn_r _ [9, 10, 25, 26, 27, 28] (by decide +kernel) (by decide +kernel)
set_option maxRecDepth 20000 in
theorem gX10_leaveOut_X1_has : GoodIn wsX10_leaveOut (wsV RX10 85 RX1 yX1_has wsX1_has) := goodIn_app (goodIn_of _ (by decide +kernel)) ggX10_leaveOut_X1_has
set_option maxRecDepth 20000 in
theorem ggX10_leaveOut_X1_remove : GoodIn wsX10_leaveOut wsX1_remove := goodIn_r _ [14, 10, 15, 16, 17, 18, 6, 7, 8, 9, 25, 26, 27, 28] (by decide +kernel) (by decide +kernel)
set_option maxRecDepth 20000 in
theorem gX10_leaveOut_X1_remove : GoodIn wsX10_leaveOut (wsV RX10 88 RX1 yX1_remove wsX1_remove) := goodIn_app (goodIn_of _ (by decide +kernel)) ggX10_leaveOut_X1_remove
set_option maxRecDepth 20000 in
theorem ggX10_howOftenPast_X10_isPastIn : GoodIn wsX10_howOftenPast wsX10_isPastIn := goodIn_r _ [7, 8, 9, 10, 11, 12, 13, 14] (by decide +kernel) (by decide +kernel)
set_option maxRecDepth 20000 in
theorem gX10_howOftenPast_X10_isPastIn : GoodIn wsX10_howOftenPast (wsV RX10 92 RX10 yX10_isPastIn wsX10_isPastIn) := goodIn_app (goodIn_of _ (by decide +kernel)) ggX10_howOftenPast_X10_isPastIn
set_option maxRecDepth 20000 in
theorem ggX10_firstPast_X10_isPastIn : GoodIn wsX10_firstPast wsX10_isPastIn := goodIn_r _ [7, 8, 9, 10, 11, 12, 13, 14] (by decide +kernel) (by decide +kernel)
set_option maxRecDepth 20000 in
theorem gX10_firstPast_X10_isPastIn : GoodIn wsX10_firstPast (wsV RX10 92 RX10 yX10_isPastIn wsX10_isPastIn) := goodIn_app (goodIn_of _ (by decide +kernel)) ggX10_firstPast_X10_isPastIn
set_option maxRecDepth 20000 in
theorem ggX11_init_X3_init : GoodIn wsX11_init wsX3_init := goodIn_r _ [39, 40, 2, 3, 41, 42, 43, 44, 45, 46, 47, 48, 49, 50, 51, 52, 53, 18, 54, 55, 56, 57, 58, 59, 60, 61, 141, 142, 143, 144, 105, 106, 107, 145, 146] (by decide +kernel) (by decide +kernel)
set_option maxRecDepth 20000 in
theorem gX11_init_X3_init : GoodIn wsX11_init (wsX3_init) := ggX11_init_X3_init
set_option maxRecDepth 20000 in
theorem ggX11_init_X9_init : GoodIn wsX11_init wsX9_init := goodIn_r _ [63, 64, 2, 3, 65, 18, 66, 119, 120] (by decide +kernel) (by decide +kernel)
set_option maxRecDepth 20000 in
theorem gX11_init_X9_init_n25 : GoodIn wsX11_init (wsX9_init) := ggX11_init_X9_init
set_option maxRecDepth 20000 in
theorem ggX11_init_X8_init : GoodIn wsX11_init wsX8_init := goodIn_r _ [68, 69, 2, 3, 70, 18, 71, 121, 122] (by decide +kernel) (by decide +kernel)
set_option maxRecDepth 20000 in
theorem gX11_init_X8_init_n32 : GoodIn wsX11_init (wsX8_init) := ggX11_init_X8_init
set_option maxRecDepth 20000 in
theorem ggX11_init_X10_init : GoodIn wsX11_init wsX10_init := goodIn_r _ [73, 74, 2, 3, 75, 42, 43, 76, 77, 48, 49, 78, 79, 18, 80, 81, 82, 50, 51, 52, 53, 54, 55, 56, 57, 58, 59, 60, 61, 141, 142, 143, 144, 123, 124, 125, 126, 127, 128, 145, 146] (by decide +kernel) (by decide +kernel)
set_option maxRecDepth 20000 in
theorem gX11_init_X10_init_n43 : GoodIn wsX11_init (wsX10_init) := ggX11_init_X10_init
set_option maxRecDepth 20000 in
theorem ggX11_init_X7_init : GoodIn wsX11_init wsX7_init := goodIn_r _ [84, 85, 2, 3, 86, 87, 18, 88, 89, 90, 91, 92, 93, 94, 129, 130, 131, 132, 133, 134, 135, 136] (by decide +kernel) (by decide +kernel)
set_option maxRecDepth 20000 in
theorem gX11_init_X7_init_n53 : GoodIn wsX11_init (wsX7_init) := ggX11_init_X7_init
set_option maxRecDepth 20000 in
theorem ggX11_init_X2_init : GoodIn wsX11_init wsX2_init := goodIn_r _ [96, 97, 2, 3, 18, 98, 99, 137, 138] (by decide +kernel) (by decide +kernel)
set_option maxRecDepth 20000 in
theorem gX11_init_X2_init_n60 : GoodIn wsX11_init (wsX2_init) := ggX11_init_X2_init
set_option maxRecDepth 20000 in
theorem ggX11_init_X5_init : GoodIn wsX11_init wsX5_init := goodIn_r _ [101, 102, 2, 3, 103, 104, 139, 140] (by decide +kernel) (by decide +kernel)
set_option maxRecDepth 20000 in
theorem gX11_init_X5_init_n67 : GoodIn wsX11_init (wsX5_init) := ggX11_init_X5_init
set_option maxRecDepth 20000 in
theorem ggX11_letter_X11_refuse : GoodIn wsX11_letter wsX11_refuse := goodIn_r _ [6, 7, 19, 20, 21, 22, 23, 24, 25, 26, 27, 28, 29] (by decide +kernel) (by decide +kernel)
set_option maxRecDepth 20000 in
theorem gX11_letter_X11_refuse : GoodIn wsX11_letter (wsV RX11 72 RX11 yX11_refuse wsX11_refuse) := goodIn_app (goodIn_of _ (by decide +kernel)) ggX11_letter_X11_refuse
set_option maxRecDepth 20000 in
theorem ggX11_letter_X9_isFull : GoodIn wsX11_letter wsX9_isFull := goodIn_r _ [12, 13, 30, 31] (by decide +kernel) (by decide +kernel)
set_option maxRecDepth 20000 in
theorem gX11_letter_X9_isFull : GoodIn wsX11_letter (wsV RX11 76 RX9 yX9_isFull wsX9_isFull) := goodIn_app (goodIn_of _ (by decide +kernel)) ggX11_letter_X9_isFull
set_option maxRecDepth 20000 in
theorem ggX11_letter_X9_put : GoodIn wsX11_letter wsX9_put := goodIn_r _ [17, 13, 18, 30, 31] (by decide +kernel) (by decide +kernel)
set_option maxRecDepth 20000 in
theorem gX11_letter_X9_put : GoodIn wsX11_letter (wsV RX11 80 RX9 yX9_put wsX9_put) := goodIn_app (goodIn_of _ (by decide +kernel)) ggX11_letter_X9_put
set_option maxRecDepth 20000 in
theorem ggX11_race_X9_faultIn : GoodIn wsX11_race wsX9_faultIn := goodIn_r _ [7, 8, 9, 10, 6, 11, 12, 13, 14, 15, 16, 17, 18, 19, 20, 21, 22, 23, 24, 25, 26, 27, 28, 29, 30, 31, 32, 33, 34, 35, 36, 37, 38, 39, 40, 41, 42, 43, 44, 45, 46, 47, 48, 49, 50, 51, 52, 53, 120, 121, 122, 123, 124, 125, 126, 127, 128] (by decide +kernel) (by decide +kernel)
set_option maxRecDepth 20000 in
theorem gX11_race_X9_faultIn : GoodIn wsX11_race (wsV RX11 83 RX9 yX9_faultIn wsX9_faultIn) := goodIn_app (goodIn_of _ (by decide +kernel)) ggX11_race_X9_faultIn
set_option maxRecDepth 20000 in
theorem ggX11_race_X9_tellTo : GoodIn wsX11_race wsX9_tellTo := goodIn_r _ [57, 12, 34, 35, 36, 6, 37, 13, 58, 59, 60, 61, 31, 42, 43, 44, 45, 46, 47, 48, 49, 23, 24, 25, 26, 62, 63, 64, 65, 66, 67, 68, 69, 70, 71, 72, 73, 74, 75, 76, 77, 78, 79, 80, 81, 82, 83, 84, 85, 86, 87, 88, 89, 90, 91, 92, 93, 94, 95, 96, 97, 98, 99, 100, 101, 102, 103, 104, 120, 121, 122, 123, 124, 125, 126, 127, 128, 129, 130] (by decide +kernel) (by decide +kernel)
set_option maxRecDepth 20000 in
theorem gX11_race_X9_tellTo : GoodIn wsX11_race (wsV RX11 87 RX9 yX9_tellTo wsX9_tellTo) := goodIn_app (goodIn_of _ (by decide +kernel)) ggX11_race_X9_tellTo
set_option maxRecDepth 20000 in
theorem ggX11_race_X9_forget : GoodIn wsX11_race wsX9_forget := goodIn_r _ [108, 12, 120, 121] (by decide +kernel) (by decide +kernel)
set_option maxRecDepth 20000 in
theorem gX11_race_X9_forget : GoodIn wsX11_race (wsV RX11 90 RX9 yX9_forget wsX9_forget) := goodIn_app (goodIn_of _ (by decide +kernel)) ggX11_race_X9_forget
set_option maxRecDepth 20000 in
theorem ggX11_section_X1_has : GoodIn wsX11_section wsX1_has := goodIn_r _ [10, 11, 36, 37, 38, 39] (by decide +kernel) (by decide +kernel)
set_option maxRecDepth 20000 in
theorem gX11_section_X1_has : GoodIn wsX11_section (wsV RX11 97 RX1 yX1_has wsX1_has) := goodIn_app (goodIn_of _ (by decide +kernel)) ggX11_section_X1_has
set_option maxRecDepth 20000 in
theorem ggX11_section_X11_refuse : GoodIn wsX11_section wsX11_refuse := goodIn_r _ [16, 17, 22, 23, 24, 25, 26, 27, 28, 29, 30, 31, 32] (by decide +kernel) (by decide +kernel)
set_option maxRecDepth 20000 in
theorem gX11_section_X11_refuse : GoodIn wsX11_section (wsV RX11 72 RX11 yX11_refuse wsX11_refuse) := goodIn_app (goodIn_of _ (by decide +kernel)) ggX11_section_X11_refuse
set_option maxRecDepth 20000 in
theorem ggX11_section_X4_takes : GoodIn wsX11_section wsX4_takes := goodIn_r _ [21] (by decide +kernel) (by decide +kernel)
set_option maxRecDepth 20000 in
theorem gX11_section_X4_takes : GoodIn wsX11_section (va_wsS RX11 112 yX4_takes wsX4_takes) := goodIn_app (goodIn_of _ (by decide +kernel)) ggX11_section_X4_takes
set_option maxRecDepth 20000 in
theorem ggX11_athlete_X3_has : GoodIn wsX11_athlete wsX3_has := goodIn_r _ [8, 9, 27, 28, 29] (by decide +kernel) (by decide +kernel)
set_option maxRecDepth 20000 in
theorem gX11_athlete_X3_has : GoodIn wsX11_athlete (wsV RX11 117 RX3 yX3_has wsX3_has) := goodIn_app (goodIn_of _ (by decide +kernel)) ggX11_athlete_X3_has
set_option maxRecDepth 20000 in
theorem ggX11_athlete_X11_refuse : GoodIn wsX11_athlete wsX11_refuse := goodIn_r _ [14, 15, 16, 17, 18, 19, 20, 21, 22, 23, 24, 25, 26] (by decide +kernel) (by decide +kernel)
set_option maxRecDepth 20000 in
theorem gX11_athlete_X11_refuse : GoodIn wsX11_athlete (wsV RX11 72 RX11 yX11_refuse wsX11_refuse) := goodIn_app (goodIn_of _ (by decide +kernel)) ggX11_athlete_X11_refuse
set_option maxRecDepth 20000 in
theorem ggX11_tries_X3_has : GoodIn wsX11_tries wsX3_has := goodIn_r _ [9, 10, 34, 35, 36] (by decide +kernel) (by decide +kernel)
set_option maxRecDepth 20000 in
theorem gX11_tries_X3_has : GoodIn wsX11_tries (wsV RX11 117 RX3 yX3_has wsX3_has) := goodIn_app (goodIn_of _ (by decide +kernel)) ggX11_tries_X3_has
set_option maxRecDepth 20000 in
theorem ggX11_tries_X1_has : GoodIn wsX11_tries wsX1_has := goodIn_r _ [15, 16, 39, 40, 41, 42] (by decide +kernel) (by decide +kernel)
set_option maxRecDepth 20000 in
theorem gX11_tries_X1_has : GoodIn wsX11_tries (wsV RX11 97 RX1 yX1_has wsX1_has) := goodIn_app (goodIn_of _ (by decide +kernel)) ggX11_tries_X1_has
set_option maxRecDepth 20000 in
theorem ggX11_tries_X11_refuse : GoodIn wsX11_tries wsX11_refuse := goodIn_r _ [21, 22, 23, 24, 25, 26, 27, 28, 29, 30, 31, 32, 33] (by decide +kernel) (by decide +kernel)
set_option maxRecDepth 20000 in
theorem gX11_tries_X11_refuse : GoodIn wsX11_tries (wsV RX11 72 RX11 yX11_refuse wsX11_refuse) := goodIn_app (goodIn_of _ (by decide +kernel)) ggX11_tries_X11_refuse
set_option maxRecDepth 20000 in
theorem ggX11_turn_X1_has : GoodIn wsX11_turn wsX1_has := goodIn_r _ [9, 10, 38, 39, 40, 41] (by decide +kernel) (by decide +kernel)
set_option maxRecDepth 20000 in
theorem gX11_turn_X1_has : GoodIn wsX11_turn (wsV RX11 97 RX1 yX1_has wsX1_has) := goodIn_app (goodIn_of _ (by decide +kernel)) ggX11_turn_X1_has
set_option maxRecDepth 20000 in
theorem ggX11_turn_X11_refuse : GoodIn wsX11_turn wsX11_refuse := goodIn_r _ [15, 16, 24, 25, 26, 27, 28, 29, 30, 31, 32, 33, 34] (by decide +kernel) (by decide +kernel)
set_option maxRecDepth 20000 in
theorem gX11_turn_X11_refuse : GoodIn wsX11_turn (wsV RX11 72 RX11 yX11_refuse wsX11_refuse) := goodIn_app (goodIn_of _ (by decide +kernel)) ggX11_turn_X11_refuse
set_option maxRecDepth 20000 in
theorem ggX11_turn_X1_become_ : GoodIn wsX11_turn wsX1_become_ := goodIn_r _ [20, 21, 22, 23, 6, 7, 8, 9, 10, 38, 39, 40, 41] (by decide +kernel) (by decide +kernel)
set_option maxRecDepth 20000 in
theorem gX11_turn_X1_become_ : GoodIn wsX11_turn (wsV RX11 130 RX1 yX1_become_ wsX1_become_) := goodIn_app (goodIn_of _ (by decide +kernel)) ggX11_turn_X1_become_
set_option maxRecDepth 20000 in
theorem ggX11_swap_X1_has : GoodIn wsX11_swap wsX1_has := goodIn_r _ [8, 9, 41, 42, 43, 44] (by decide +kernel) (by decide +kernel)
set_option maxRecDepth 20000 in
theorem gX11_swap_X1_has : GoodIn wsX11_swap (wsV RX11 97 RX1 yX1_has wsX1_has) := goodIn_app (goodIn_of _ (by decide +kernel)) ggX11_swap_X1_has
set_option maxRecDepth 20000 in
theorem ggX11_swap_X11_refuse : GoodIn wsX11_swap wsX11_refuse := goodIn_r _ [14, 15, 27, 28, 29, 30, 31, 32, 33, 34, 35, 36, 37] (by decide +kernel) (by decide +kernel)
set_option maxRecDepth 20000 in
theorem gX11_swap_X11_refuse : GoodIn wsX11_swap (wsV RX11 72 RX11 yX11_refuse wsX11_refuse) := goodIn_app (goodIn_of _ (by decide +kernel)) ggX11_swap_X11_refuse
set_option maxRecDepth 20000 in
theorem ggX11_swap_X1_exchange : GoodIn wsX11_swap wsX1_exchange := goodIn_r _ [19, 20, 21, 22, 23, 5, 6, 7, 8, 9, 24, 25, 26, 41, 42, 43, 44] (by decide +kernel) (by decide +kernel)
set_option maxRecDepth 20000 in
theorem gX11_swap_X1_exchange : GoodIn wsX11_swap (wsV RX11 134 RX1 yX1_exchange wsX1_exchange) := goodIn_app (goodIn_of _ (by decide +kernel)) ggX11_swap_X1_exchange
set_option maxRecDepth 20000 in
theorem ggX11_skill_X3_has : GoodIn wsX11_skill wsX3_has := goodIn_r _ [8, 9, 27, 28, 29] (by decide +kernel) (by decide +kernel)
set_option maxRecDepth 20000 in
theorem gX11_skill_X3_has : GoodIn wsX11_skill (wsV RX11 117 RX3 yX3_has wsX3_has) := goodIn_app (goodIn_of _ (by decide +kernel)) ggX11_skill_X3_has
set_option maxRecDepth 20000 in
theorem ggX11_skill_X11_refuse : GoodIn wsX11_skill wsX11_refuse := goodIn_r _ [14, 15, 16, 17, 18, 19, 20, 21, 22, 23, 24, 25, 26] (by decide +kernel) (by decide +kernel)
set_option maxRecDepth 20000 in
theorem gX11_skill_X11_refuse : GoodIn wsX11_skill (wsV RX11 72 RX11 yX11_refuse wsX11_refuse) := goodIn_app (goodIn_of _ (by decide +kernel)) ggX11_skill_X11_refuse
set_option maxRecDepth 20000 in
theorem ggX11_tryHard_X3_has : GoodIn wsX11_tryHard wsX3_has := goodIn_r _ [9, 10, 34, 35, 36] (by decide +kernel) (by decide +kernel)
set_option maxRecDepth 20000 in
theorem gX11_tryHard_X3_has : GoodIn wsX11_tryHard (wsV RX11 117 RX3 yX3_has wsX3_has) := goodIn_app (goodIn_of _ (by decide +kernel)) ggX11_tryHard_X3_has
set_option maxRecDepth 20000 in
theorem ggX11_tryHard_X1_has : GoodIn wsX11_tryHard wsX1_has := goodIn_r _ [15, 16, 39, 40, 41, 42] (by decide +kernel) (by decide +kernel)
set_option maxRecDepth 20000 in
theorem gX11_tryHard_X1_has : GoodIn wsX11_tryHard (wsV RX11 97 RX1 yX1_has wsX1_has) := goodIn_app (goodIn_of _ (by decide +kernel)) ggX11_tryHard_X1_has
set_option maxRecDepth 20000 in
theorem ggX11_tryHard_X11_refuse : GoodIn wsX11_tryHard wsX11_refuse := goodIn_r _ [21, 22, 23, 24, 25, 26, 27, 28, 29, 30, 31, 32, 33] (by decide +kernel) (by decide +kernel)
set_option maxRecDepth 20000 in
theorem gX11_tryHard_X11_refuse : GoodIn wsX11_tryHard (wsV RX11 72 RX11 yX11_refuse wsX11_refuse) := goodIn_app (goodIn_of _ (by decide +kernel)) ggX11_tryHard_X11_refuse
set_option maxRecDepth 20000 in
theorem ggX11_by_X3_has : GoodIn wsX11_by wsX3_has := goodIn_r _ [11, 12, 110, 111, 112] (by decide +kernel) (by decide +kernel)
set_option maxRecDepth 20000 in
theorem gX11_by_X3_has : GoodIn wsX11_by (wsV RX11 117 RX3 yX3_has wsX3_has) := goodIn_app (goodIn_of _ (by decide +kernel)) ggX11_by_X3_has
set_option maxRecDepth 20000 in
theorem ggX11_by_X1_has : GoodIn wsX11_by wsX1_has := goodIn_r _ [17, 18, 119, 120, 121, 122] (by decide +kernel) (by decide +kernel)
set_option maxRecDepth 20000 in
theorem gX11_by_X1_has : GoodIn wsX11_by (wsV RX11 97 RX1 yX1_has wsX1_has) := goodIn_app (goodIn_of _ (by decide +kernel)) ggX11_by_X1_has
set_option maxRecDepth 20000 in
theorem ggX11_by_X11_refuse : GoodIn wsX11_by wsX11_refuse := goodIn_r _ [23, 24, 99, 100, 101, 102, 103, 104, 105, 106, 107, 108, 109] (by decide +kernel) (by decide +kernel)
set_option maxRecDepth 20000 in
theorem gX11_by_X11_refuse : GoodIn wsX11_by (wsV RX11 72 RX11 yX11_refuse wsX11_refuse) := goodIn_app (goodIn_of _ (by decide +kernel)) ggX11_by_X11_refuse
set_option maxRecDepth 20000 in
theorem ggX11_by_X11_runPlan : GoodIn wsX11_by wsX11_runPlan := goodIn_r _ [28, 3, 1, 2, 29, 30, 31, 32, 33, 34, 35, 36, 37, 38, 39, 40, 16, 41, 18, 42, 43, 44, 45, 46, 47, 48, 49, 50, 51, 52, 53, 54, 55, 56, 57, 58, 59, 60, 61, 62, 63, 64, 65, 66, 67, 68, 69, 70, 71, 72, 73, 74, 75, 76, 77, 78, 79, 80, 81, 82, 83, 84, 85, 86, 87, 88, 89, 90, 91, 92, 93, 94, 95, 96, 97, 98, 99, 100, 101, 102, 103, 104, 105, 106, 107, 108, 109, 110, 111, 112, 113, 114, 115, 116, 117, 118, 119, 120, 121, 122, 123, 124] (by decide +kernel) (by decide +kernel)
set_option maxRecDepth 20000 in
theorem gX11_by_X11_runPlan : GoodIn wsX11_by (wsV RX11 142 RX11 yX11_runPlan wsX11_runPlan) := goodIn_app (goodIn_of _ (by decide +kernel)) ggX11_by_X11_runPlan
set_option maxRecDepth 20000 in
theorem ggX11_finish_X3_has : GoodIn wsX11_finish wsX3_has := goodIn_r _ [7, 8, 112, 113, 114] (by decide +kernel) (by decide +kernel)
set_option maxRecDepth 20000 in
theorem gX11_finish_X3_has : GoodIn wsX11_finish (wsV RX11 117 RX3 yX3_has wsX3_has) := goodIn_app (goodIn_of _ (by decide +kernel)) ggX11_finish_X3_has
set_option maxRecDepth 20000 in
theorem ggX11_finish_X11_refuse : GoodIn wsX11_finish wsX11_refuse := goodIn_r _ [13, 14, 101, 102, 103, 104, 105, 106, 107, 108, 109, 110, 111] (by decide +kernel) (by decide +kernel)
set_option maxRecDepth 20000 in
theorem gX11_finish_X11_refuse : GoodIn wsX11_finish (wsV RX11 72 RX11 yX11_refuse wsX11_refuse) := goodIn_app (goodIn_of _ (by decide +kernel)) ggX11_finish_X11_refuse
set_option maxRecDepth 20000 in
theorem ggX11_finish_X11_runPlan : GoodIn wsX11_finish wsX11_runPlan := goodIn_r _ [18, 2, 1, 19, 20, 21, 22, 23, 24, 25, 26, 27, 28, 29, 30, 31, 32, 33, 34, 35, 36, 37, 38, 39, 40, 41, 42, 43, 44, 45, 46, 47, 48, 49, 50, 51, 52, 53, 54, 55, 56, 57, 58, 59, 60, 61, 62, 63, 64, 65, 66, 67, 68, 69, 70, 71, 72, 73, 74, 75, 76, 77, 78, 79, 80, 81, 82, 83, 84, 85, 86, 87, 88, 89, 90, 91, 101, 102, 103, 104, 105, 106, 107, 108, 109, 110, 111, 112, 113, 114, 115, 116, 117, 118, 119, 120, 121, 122, 123, 124, 125, 126] (by decide +kernel) (by decide +kernel)
set_option maxRecDepth 20000 in
theorem gX11_finish_X11_runPlan : GoodIn wsX11_finish (wsV RX11 142 RX11 yX11_runPlan wsX11_runPlan) := goodIn_app (goodIn_of _ (by decide +kernel)) ggX11_finish_X11_runPlan
set_option maxRecDepth 20000 in
theorem ggX11_finish_X10_gone : GoodIn wsX11_finish wsX10_gone := goodIn_r _ [95, 26, 55, 64, 115, 116, 117, 118, 119, 120, 121, 122, 123, 124] (by decide +kernel) (by decide +kernel)
set_option maxRecDepth 20000 in
theorem gX11_finish_X10_gone : GoodIn wsX11_finish (wsV RX11 154 RX10 yX10_gone wsX10_gone) := goodIn_app (goodIn_of _ (by decide +kernel)) ggX11_finish_X10_gone
set_option maxRecDepth 20000 in
theorem ggX11_finish_X11_placeBehind : GoodIn wsX11_finish wsX11_placeBehind := goodIn_r _ [99, 1, 100, 15, 16, 17, 12, 18, 2, 19, 20, 21, 22, 23, 24, 25, 26, 27, 28, 29, 30, 31, 32, 33, 34, 35, 36, 37, 38, 39, 40, 41, 42, 43, 44, 45, 46, 47, 48, 49, 50, 51, 52, 53, 54, 55, 56, 57, 58, 59, 60, 61, 62, 63, 64, 65, 66, 67, 68, 69, 70, 71, 72, 73, 74, 75, 76, 77, 78, 79, 80, 81, 82, 83, 84, 85, 86, 87, 88, 89, 90, 91, 101, 102, 103, 104, 105, 106, 107, 108, 109, 110, 111, 112, 113, 114, 115, 116, 117, 118, 119, 120, 121, 122, 123, 124, 125, 126] (by decide +kernel) (by decide +kernel)
set_option maxRecDepth 20000 in
theorem gX11_finish_X11_placeBehind : GoodIn wsX11_finish (wsV RX11 158 RX11 yX11_placeBehind wsX11_placeBehind) := goodIn_app (goodIn_of _ (by decide +kernel)) ggX11_finish_X11_placeBehind
set_option maxRecDepth 20000 in
theorem ggX11_at_X3_has : GoodIn wsX11_at wsX3_has := goodIn_r _ [7, 8, 107, 108, 109] (by decide +kernel) (by decide +kernel)
set_option maxRecDepth 20000 in
theorem gX11_at_X3_has : GoodIn wsX11_at (wsV RX11 117 RX3 yX3_has wsX3_has) := goodIn_app (goodIn_of _ (by decide +kernel)) ggX11_at_X3_has
set_option maxRecDepth 20000 in
theorem ggX11_at_X11_refuse : GoodIn wsX11_at wsX11_refuse := goodIn_r _ [13, 14, 96, 97, 98, 99, 100, 101, 102, 103, 104, 105, 106] (by decide +kernel) (by decide +kernel)
set_option maxRecDepth 20000 in
theorem gX11_at_X11_refuse : GoodIn wsX11_at (wsV RX11 72 RX11 yX11_refuse wsX11_refuse) := goodIn_app (goodIn_of _ (by decide +kernel)) ggX11_at_X11_refuse
set_option maxRecDepth 20000 in
theorem ggX11_at_X11_runPlan : GoodIn wsX11_at wsX11_runPlan := goodIn_r _ [18, 2, 1, 19, 20, 21, 22, 23, 24, 25, 26, 27, 28, 29, 30, 31, 32, 33, 34, 35, 36, 37, 38, 39, 40, 41, 42, 43, 44, 45, 46, 47, 48, 49, 50, 51, 52, 53, 54, 55, 56, 57, 58, 59, 60, 61, 62, 63, 64, 65, 66, 67, 68, 69, 70, 71, 72, 73, 74, 75, 76, 77, 78, 79, 80, 81, 82, 83, 84, 85, 86, 87, 88, 89, 90, 91, 96, 97, 98, 99, 100, 101, 102, 103, 104, 105, 106, 107, 108, 109, 110, 111, 112, 113, 114, 115, 116, 117, 118, 119, 120, 121] (by decide +kernel) (by decide +kernel)
set_option maxRecDepth 20000 in
theorem gX11_at_X11_runPlan : GoodIn wsX11_at (wsV RX11 142 RX11 yX11_runPlan wsX11_runPlan) := goodIn_app (goodIn_of _ (by decide +kernel)) ggX11_at_X11_runPlan
set_option maxRecDepth 20000 in
theorem ggX11_at_X10_sectionAt : GoodIn wsX11_at wsX10_sectionAt := goodIn_r _ [95, 26, 55, 65, 110, 111, 112, 113, 114, 115, 116, 117, 118, 119] (by decide +kernel) (by decide +kernel)
set_option maxRecDepth 20000 in
theorem gX11_at_X10_sectionAt : GoodIn wsX11_at (wsV RX11 161 RX10 yX10_sectionAt wsX10_sectionAt) := goodIn_app (goodIn_of _ (by decide +kernel)) ggX11_at_X10_sectionAt
set_option maxRecDepth 20000 in
theorem ggX11_overtakes_X3_has : GoodIn wsX11_overtakes wsX3_has := goodIn_r _ [10, 11, 116, 117, 118] (by decide +kernel) (by decide +kernel)
set_option maxRecDepth 20000 in
theorem gX11_overtakes_X3_has : GoodIn wsX11_overtakes (wsV RX11 117 RX3 yX3_has wsX3_has) := goodIn_app (goodIn_of _ (by decide +kernel)) ggX11_overtakes_X3_has
set_option maxRecDepth 20000 in
theorem ggX11_overtakes_X11_refuse : GoodIn wsX11_overtakes wsX11_refuse := goodIn_r _ [16, 17, 105, 106, 107, 108, 109, 110, 111, 112, 113, 114, 115] (by decide +kernel) (by decide +kernel)
set_option maxRecDepth 20000 in
theorem gX11_overtakes_X11_refuse : GoodIn wsX11_overtakes (wsV RX11 72 RX11 yX11_refuse wsX11_refuse) := goodIn_app (goodIn_of _ (by decide +kernel)) ggX11_overtakes_X11_refuse
set_option maxRecDepth 20000 in
theorem ggX11_overtakes_X11_runPlan : GoodIn wsX11_overtakes wsX11_runPlan := goodIn_r _ [21, 5, 1, 3, 4, 22, 23, 24, 25, 26, 27, 28, 29, 30, 31, 32, 33, 34, 35, 36, 37, 38, 39, 40, 41, 42, 43, 44, 45, 46, 47, 48, 49, 50, 51, 52, 53, 54, 55, 56, 57, 58, 59, 60, 61, 62, 63, 64, 65, 66, 67, 68, 69, 70, 71, 72, 73, 74, 75, 76, 77, 78, 79, 80, 81, 82, 83, 84, 85, 86, 87, 88, 89, 90, 91, 92, 105, 106, 107, 108, 109, 110, 111, 112, 113, 114, 115, 116, 117, 118, 119, 120, 121, 122, 123, 124, 125, 126, 127, 128, 129, 130] (by decide +kernel) (by decide +kernel)
set_option maxRecDepth 20000 in
theorem gX11_overtakes_X11_runPlan : GoodIn wsX11_overtakes (wsV RX11 142 RX11 yX11_runPlan wsX11_runPlan) := goodIn_app (goodIn_of _ (by decide +kernel)) ggX11_overtakes_X11_runPlan
set_option maxRecDepth 20000 in
theorem ggX11_overtakes_X10_load : GoodIn wsX11_overtakes wsX10_load := goodIn_r _ [26, 27, 28, 29, 30, 31, 32, 33, 34, 35, 36, 37, 38, 39, 40, 41, 42, 43, 44, 45, 46, 47, 48, 49, 50, 119, 120, 121, 122, 123, 124, 125, 126, 127, 128, 129, 130] (by decide +kernel) (by decide +kernel)
set_option maxRecDepth 20000 in
theorem gX11_overtakes_X10_load : GoodIn wsX11_overtakes (wsV RX11 164 RX10 yX10_load wsX10_load) := goodIn_app (goodIn_of _ (by decide +kernel)) ggX11_overtakes_X10_load
set_option maxRecDepth 20000 in
theorem ggX11_overtakes_X10_run : GoodIn wsX11_overtakes wsX10_run := goodIn_r _ [54, 28, 55, 27, 56, 57, 58, 59, 60, 29, 61, 62, 63, 64, 65, 66, 67, 68, 69, 33, 70, 42, 41, 36, 71, 72, 73, 74, 75, 76, 77, 78, 79, 80, 81, 82, 83, 84, 85, 86, 87, 88, 89, 90, 91, 92, 119, 120, 121, 122, 123, 124, 129, 130, 125, 126, 127, 128] (by decide +kernel) (by decide +kernel)
set_option maxRecDepth 20000 in
theorem gX11_overtakes_X10_run : GoodIn wsX11_overtakes (wsV RX11 168 RX10 yX10_run wsX10_run) := goodIn_app (goodIn_of _ (by decide +kernel)) ggX11_overtakes_X10_run
set_option maxRecDepth 20000 in
theorem ggX11_overtakes_X10_howOftenPast : GoodIn wsX11_overtakes wsX10_howOftenPast := goodIn_r _ [96, 27, 56, 97, 98, 99, 25, 100, 66, 119, 120, 121, 122, 123, 124, 125, 126, 127, 128] (by decide +kernel) (by decide +kernel)
set_option maxRecDepth 20000 in
theorem gX11_overtakes_X10_howOftenPast : GoodIn wsX11_overtakes (wsV RX11 171 RX10 yX10_howOftenPast wsX10_howOftenPast) := goodIn_app (goodIn_of _ (by decide +kernel)) ggX11_overtakes_X10_howOftenPast
set_option maxRecDepth 20000 in
theorem ggX11_overtakes_X10_firstPast : GoodIn wsX11_overtakes wsX10_firstPast := goodIn_r _ [104, 27, 56, 97, 98, 99, 25, 100, 66, 119, 120, 121, 122, 123, 124, 125, 126, 127, 128] (by decide +kernel) (by decide +kernel)
set_option maxRecDepth 20000 in
theorem gX11_overtakes_X10_firstPast : GoodIn wsX11_overtakes (wsV RX11 175 RX10 yX10_firstPast wsX10_firstPast) := goodIn_app (goodIn_of _ (by decide +kernel)) ggX11_overtakes_X10_firstPast
set_option maxRecDepth 20000 in
theorem ggX11_bestPlan_X3_has : GoodIn wsX11_bestPlan wsX3_has := goodIn_r _ [9, 10, 98, 99, 100] (by decide +kernel) (by decide +kernel)
set_option maxRecDepth 20000 in
theorem gX11_bestPlan_X3_has : GoodIn wsX11_bestPlan (wsV RX11 117 RX3 yX3_has wsX3_has) := goodIn_app (goodIn_of _ (by decide +kernel)) ggX11_bestPlan_X3_has
set_option maxRecDepth 20000 in
theorem ggX11_bestPlan_X1_has : GoodIn wsX11_bestPlan wsX1_has := goodIn_r _ [15, 16, 101, 102, 103, 104] (by decide +kernel) (by decide +kernel)
set_option maxRecDepth 20000 in
theorem gX11_bestPlan_X1_has : GoodIn wsX11_bestPlan (wsV RX11 97 RX1 yX1_has wsX1_has) := goodIn_app (goodIn_of _ (by decide +kernel)) ggX11_bestPlan_X1_has
set_option maxRecDepth 20000 in
theorem ggX11_bestPlan_X11_refuse : GoodIn wsX11_bestPlan wsX11_refuse := goodIn_r _ [21, 22, 87, 88, 89, 90, 91, 92, 93, 94, 95, 96, 97] (by decide +kernel) (by decide +kernel)
set_option maxRecDepth 20000 in
theorem gX11_bestPlan_X11_refuse : GoodIn wsX11_bestPlan (wsV RX11 72 RX11 yX11_refuse wsX11_refuse) := goodIn_app (goodIn_of _ (by decide +kernel)) ggX11_bestPlan_X11_refuse
set_option maxRecDepth 20000 in
theorem ggX11_bestPlan_X7_look : GoodIn wsX11_bestPlan wsX7_look := goodIn_r _ [27, 28, 29, 30, 31, 32, 33, 34, 35, 36, 37, 38, 39, 14, 40, 41, 42, 43, 44, 45, 46, 47, 48, 49, 50, 51, 52, 101, 102, 103, 104, 105, 106, 107, 108, 109, 110, 111, 112, 113, 114] (by decide +kernel) (by decide +kernel)
set_option maxRecDepth 20000 in
theorem gX11_bestPlan_X7_look : GoodIn wsX11_bestPlan (wsV RX11 178 RX7 yX7_look wsX7_look) := goodIn_app (goodIn_of _ (by decide +kernel)) ggX11_bestPlan_X7_look
set_option maxRecDepth 20000 in
theorem ggX11_bestPlan_X7_leastFinish : GoodIn wsX11_bestPlan wsX7_leastFinish := goodIn_r _ [56, 57, 29, 31, 58, 59, 60, 26, 61, 62, 63, 64, 65, 32, 34, 36, 66, 67, 51, 68, 69, 70, 71, 72, 73, 74, 75, 76, 77, 78, 79, 80, 81, 105, 106, 107, 108, 109, 110, 111, 112] (by decide +kernel) (by decide +kernel)
set_option maxRecDepth 20000 in
theorem gX11_bestPlan_X7_leastFinish : GoodIn wsX11_bestPlan (wsV RX11 181 RX7 yX7_leastFinish wsX7_leastFinish) := goodIn_app (goodIn_of _ (by decide +kernel)) ggX11_bestPlan_X7_leastFinish
set_option maxRecDepth 20000 in
theorem ggX11_bestPlan_X7_bestTries : GoodIn wsX11_bestPlan wsX7_bestTries := goodIn_r _ [85, 31, 29, 32, 34, 86, 54, 55, 26, 56, 57, 58, 59, 60, 61, 62, 63, 64, 65, 36, 66, 67, 51, 68, 69, 70, 71, 72, 73, 74, 75, 76, 77, 78, 79, 80, 81, 105, 106, 107, 108, 109, 110, 111, 112] (by decide +kernel) (by decide +kernel)
set_option maxRecDepth 20000 in
theorem gX11_bestPlan_X7_bestTries : GoodIn wsX11_bestPlan (wsV RX11 184 RX7 yX7_bestTries wsX7_bestTries) := goodIn_app (goodIn_of _ (by decide +kernel)) ggX11_bestPlan_X7_bestTries
set_option maxRecDepth 20000 in
theorem ggX11_hardest_X3_has : GoodIn wsX11_hardest wsX3_has := goodIn_r _ [9, 10, 108, 109, 110] (by decide +kernel) (by decide +kernel)
set_option maxRecDepth 20000 in
theorem gX11_hardest_X3_has : GoodIn wsX11_hardest (wsV RX11 117 RX3 yX3_has wsX3_has) := goodIn_app (goodIn_of _ (by decide +kernel)) ggX11_hardest_X3_has
set_option maxRecDepth 20000 in
theorem ggX11_hardest_X11_refuse : GoodIn wsX11_hardest wsX11_refuse := goodIn_r _ [15, 16, 97, 98, 99, 100, 101, 102, 103, 104, 105, 106, 107] (by decide +kernel) (by decide +kernel)
set_option maxRecDepth 20000 in
theorem gX11_hardest_X11_refuse : GoodIn wsX11_hardest (wsV RX11 72 RX11 yX11_refuse wsX11_refuse) := goodIn_app (goodIn_of _ (by decide +kernel)) ggX11_hardest_X11_refuse
set_option maxRecDepth 20000 in
theorem ggX11_hardest_X10_load : GoodIn wsX11_hardest wsX10_load := goodIn_r _ [21, 22, 23, 24, 25, 26, 27, 28, 29, 30, 31, 32, 33, 34, 35, 36, 37, 38, 39, 40, 41, 42, 43, 44, 45, 111, 112, 113, 114, 115, 116, 117, 118, 119, 120, 121, 122] (by decide +kernel) (by decide +kernel)
set_option maxRecDepth 20000 in
theorem gX11_hardest_X10_load : GoodIn wsX11_hardest (wsV RX11 164 RX10 yX10_load wsX10_load) := goodIn_app (goodIn_of _ (by decide +kernel)) ggX11_hardest_X10_load
set_option maxRecDepth 20000 in
theorem ggX11_hardest_X10_rideAt : GoodIn wsX11_hardest wsX10_rideAt := goodIn_r _ [49, 22, 50, 51, 23, 52, 53, 54, 55, 56, 111, 112, 113, 114, 115, 116, 117, 118, 119, 120, 121, 122] (by decide +kernel) (by decide +kernel)
set_option maxRecDepth 20000 in
theorem gX11_hardest_X10_rideAt : GoodIn wsX11_hardest (wsV RX11 187 RX10 yX10_rideAt wsX10_rideAt) := goodIn_app (goodIn_of _ (by decide +kernel)) ggX11_hardest_X10_rideAt
set_option maxRecDepth 20000 in
theorem ggX11_hardest_X10_run : GoodIn wsX11_hardest wsX10_run := goodIn_r _ [60, 23, 61, 22, 50, 52, 62, 51, 63, 24, 64, 65, 66, 67, 68, 69, 70, 71, 72, 28, 73, 37, 36, 31, 74, 75, 76, 77, 78, 79, 54, 55, 56, 80, 81, 82, 83, 84, 85, 86, 87, 88, 89, 90, 91, 92, 111, 112, 113, 114, 115, 116, 121, 122, 117, 118, 119, 120] (by decide +kernel) (by decide +kernel)
set_option maxRecDepth 20000 in
theorem gX11_hardest_X10_run : GoodIn wsX11_hardest (wsV RX11 168 RX10 yX10_run wsX10_run) := goodIn_app (goodIn_of _ (by decide +kernel)) ggX11_hardest_X10_run
set_option maxRecDepth 20000 in
theorem ggX11_hardest_X10_legsAtFinish : GoodIn wsX11_hardest wsX10_legsAtFinish := goodIn_r _ [96, 22, 50, 23, 61, 68, 111, 112, 113, 114, 115, 116, 117, 118, 119, 120, 121, 122] (by decide +kernel) (by decide +kernel)
set_option maxRecDepth 20000 in
theorem gX11_hardest_X10_legsAtFinish : GoodIn wsX11_hardest (wsV RX11 191 RX10 yX10_legsAtFinish wsX10_legsAtFinish) := goodIn_app (goodIn_of _ (by decide +kernel)) ggX11_hardest_X10_legsAtFinish
set_option maxRecDepth 20000 in
theorem ggX11_leastTries_X3_has : GoodIn wsX11_leastTries wsX3_has := goodIn_r _ [9, 10, 99, 100, 101] (by decide +kernel) (by decide +kernel)
set_option maxRecDepth 20000 in
theorem gX11_leastTries_X3_has : GoodIn wsX11_leastTries (wsV RX11 117 RX3 yX3_has wsX3_has) := goodIn_app (goodIn_of _ (by decide +kernel)) ggX11_leastTries_X3_has
set_option maxRecDepth 20000 in
theorem ggX11_leastTries_X11_refuse : GoodIn wsX11_leastTries wsX11_refuse := goodIn_r _ [15, 16, 88, 89, 90, 91, 92, 93, 94, 95, 96, 97, 98] (by decide +kernel) (by decide +kernel)
set_option maxRecDepth 20000 in
theorem gX11_leastTries_X11_refuse : GoodIn wsX11_leastTries (wsV RX11 72 RX11 yX11_refuse wsX11_refuse) := goodIn_app (goodIn_of _ (by decide +kernel)) ggX11_leastTries_X11_refuse
set_option maxRecDepth 20000 in
theorem ggX11_leastTries_X7_look : GoodIn wsX11_leastTries wsX7_look := goodIn_r _ [21, 22, 23, 24, 25, 26, 27, 28, 29, 30, 31, 32, 33, 34, 35, 36, 37, 38, 39, 40, 41, 42, 43, 44, 45, 46, 47, 102, 103, 104, 105, 106, 107, 108, 109, 110, 111, 112, 113, 114, 115] (by decide +kernel) (by decide +kernel)
set_option maxRecDepth 20000 in
theorem gX11_leastTries_X7_look : GoodIn wsX11_leastTries (wsV RX11 178 RX7 yX7_look wsX7_look) := goodIn_app (goodIn_of _ (by decide +kernel)) ggX11_leastTries_X7_look
set_option maxRecDepth 20000 in
theorem ggX11_leastTries_X7_fewestTries : GoodIn wsX11_leastTries wsX7_fewestTries := goodIn_r _ [51, 52, 25, 23, 53, 54, 55, 20, 56, 57, 58, 59, 60, 61, 62, 63, 64, 65, 66, 67, 68, 69, 70, 26, 28, 30, 71, 72, 73, 74, 75, 76, 46, 77, 78, 79, 80, 81, 82, 83, 84, 85, 86, 87, 106, 107, 108, 109, 110, 111, 112, 113] (by decide +kernel) (by decide +kernel)
set_option maxRecDepth 20000 in
theorem gX11_leastTries_X7_fewestTries : GoodIn wsX11_leastTries (wsV RX11 194 RX7 yX7_fewestTries wsX7_fewestTries) := goodIn_app (goodIn_of _ (by decide +kernel)) ggX11_leastTries_X7_fewestTries
set_option maxRecDepth 20000 in
theorem ggX11_drink_X3_has : GoodIn wsX11_drink wsX3_has := goodIn_r _ [10, 11, 105, 106, 107] (by decide +kernel) (by decide +kernel)
set_option maxRecDepth 20000 in
theorem gX11_drink_X3_has : GoodIn wsX11_drink (wsV RX11 117 RX3 yX3_has wsX3_has) := goodIn_app (goodIn_of _ (by decide +kernel)) ggX11_drink_X3_has
set_option maxRecDepth 20000 in
theorem ggX11_drink_X11_refuse : GoodIn wsX11_drink wsX11_refuse := goodIn_r _ [16, 17, 94, 95, 96, 97, 98, 99, 100, 101, 102, 103, 104] (by decide +kernel) (by decide +kernel)
set_option maxRecDepth 20000 in
theorem gX11_drink_X11_refuse : GoodIn wsX11_drink (wsV RX11 72 RX11 yX11_refuse wsX11_refuse) := goodIn_app (goodIn_of _ (by decide +kernel)) ggX11_drink_X11_refuse
set_option maxRecDepth 20000 in
theorem ggX11_drink_X11_runPlan : GoodIn wsX11_drink wsX11_runPlan := goodIn_r _ [21, 4, 1, 2, 22, 23, 24, 25, 26, 27, 28, 29, 30, 31, 32, 33, 34, 35, 36, 37, 38, 39, 40, 41, 42, 43, 44, 45, 46, 47, 48, 49, 50, 51, 52, 53, 54, 55, 56, 57, 58, 59, 60, 61, 62, 63, 64, 65, 66, 67, 68, 69, 70, 71, 72, 73, 74, 75, 76, 77, 78, 79, 80, 81, 82, 83, 84, 85, 86, 87, 88, 89, 90, 91, 92, 93, 94, 95, 96, 97, 98, 99, 100, 101, 102, 103, 104, 105, 106, 107, 112, 113, 114, 115, 116, 117, 108, 109, 110, 111, 118, 119] (by decide +kernel) (by decide +kernel)
set_option maxRecDepth 20000 in
theorem gX11_drink_X11_runPlan : GoodIn wsX11_drink (wsV RX11 142 RX11 yX11_runPlan wsX11_runPlan) := goodIn_app (goodIn_of _ (by decide +kernel)) ggX11_drink_X11_runPlan
set_option maxRecDepth 20000 in
theorem ggX11_drink_X10_run : GoodIn wsX11_drink wsX10_run := goodIn_r _ [55, 29, 56, 28, 57, 58, 59, 60, 61, 30, 62, 63, 64, 65, 66, 67, 68, 69, 70, 34, 71, 43, 42, 37, 72, 73, 74, 75, 76, 77, 78, 79, 80, 81, 82, 83, 84, 85, 86, 87, 88, 89, 90, 91, 92, 93, 112, 113, 114, 115, 116, 117, 118, 119, 108, 109, 110, 111] (by decide +kernel) (by decide +kernel)
set_option maxRecDepth 20000 in
theorem gX11_drink_X10_run : GoodIn wsX11_drink (wsV RX11 168 RX10 yX10_run wsX10_run) := goodIn_app (goodIn_of _ (by decide +kernel)) ggX11_drink_X10_run
set_option maxRecDepth 20000 in
theorem ggX11_train_X3_has : GoodIn wsX11_train wsX3_has := goodIn_r _ [7, 8, 111, 112, 113] (by decide +kernel) (by decide +kernel)
set_option maxRecDepth 20000 in
theorem gX11_train_X3_has : GoodIn wsX11_train (wsV RX11 117 RX3 yX3_has wsX3_has) := goodIn_app (goodIn_of _ (by decide +kernel)) ggX11_train_X3_has
set_option maxRecDepth 20000 in
theorem ggX11_train_X11_refuse : GoodIn wsX11_train wsX11_refuse := goodIn_r _ [13, 14, 100, 101, 102, 103, 104, 105, 106, 107, 108, 109, 110] (by decide +kernel) (by decide +kernel)
set_option maxRecDepth 20000 in
theorem gX11_train_X11_refuse : GoodIn wsX11_train (wsV RX11 72 RX11 yX11_refuse wsX11_refuse) := goodIn_app (goodIn_of _ (by decide +kernel)) ggX11_train_X11_refuse
set_option maxRecDepth 20000 in
theorem ggX11_train_X11_runPlan : GoodIn wsX11_train wsX11_runPlan := goodIn_r _ [18, 19, 1, 20, 21, 22, 23, 24, 25, 26, 27, 28, 29, 30, 31, 32, 33, 34, 35, 36, 37, 38, 39, 40, 41, 42, 43, 44, 45, 46, 47, 48, 49, 50, 51, 52, 53, 54, 55, 56, 57, 58, 59, 60, 61, 62, 63, 64, 65, 66, 67, 68, 69, 70, 71, 72, 73, 74, 75, 76, 77, 78, 79, 80, 81, 82, 83, 84, 85, 86, 87, 88, 89, 90, 91, 92, 100, 101, 102, 103, 104, 105, 106, 107, 108, 109, 110, 111, 112, 113, 114, 115, 116, 117, 118, 119, 120, 121, 122, 123, 124, 125] (by decide +kernel) (by decide +kernel)
set_option maxRecDepth 20000 in
theorem gX11_train_X11_runPlan : GoodIn wsX11_train (wsV RX11 142 RX11 yX11_runPlan wsX11_runPlan) := goodIn_app (goodIn_of _ (by decide +kernel)) ggX11_train_X11_runPlan
set_option maxRecDepth 20000 in
theorem ggX11_train_X11_finishWith : GoodIn wsX11_train wsX11_finishWith := goodIn_r _ [96, 19, 1, 20, 21, 97, 98, 99, 62, 63, 64, 22, 23, 24, 25, 26, 27, 28, 29, 30, 31, 32, 33, 34, 35, 36, 37, 38, 39, 40, 41, 42, 43, 44, 45, 46, 47, 48, 49, 50, 51, 52, 53, 54, 55, 56, 57, 58, 59, 60, 61, 65, 66, 67, 68, 69, 70, 71, 72, 73, 74, 75, 76, 77, 78, 79, 80, 81, 82, 83, 84, 85, 86, 87, 88, 89, 90, 91, 92, 100, 101, 102, 103, 104, 105, 106, 107, 108, 109, 110, 111, 112, 113, 114, 115, 116, 117, 118, 119, 124, 125, 120, 121, 122, 123] (by decide +kernel) (by decide +kernel)
set_option maxRecDepth 20000 in
theorem gX11_train_X11_finishWith : GoodIn wsX11_train (wsV RX11 201 RX11 yX11_finishWith wsX11_finishWith) := goodIn_app (goodIn_of _ (by decide +kernel)) ggX11_train_X11_finishWith
set_option maxRecDepth 20000 in
theorem ggX11_weakest_X3_has : GoodIn wsX11_weakest wsX3_has := goodIn_r _ [7, 8, 107, 108, 109] (by decide +kernel) (by decide +kernel)
set_option maxRecDepth 20000 in
theorem gX11_weakest_X3_has : GoodIn wsX11_weakest (wsV RX11 117 RX3 yX3_has wsX3_has) := goodIn_app (goodIn_of _ (by decide +kernel)) ggX11_weakest_X3_has
set_option maxRecDepth 20000 in
theorem ggX11_weakest_X11_refuse : GoodIn wsX11_weakest wsX11_refuse := goodIn_r _ [13, 14, 96, 97, 98, 99, 100, 101, 102, 103, 104, 105, 106] (by decide +kernel) (by decide +kernel)
set_option maxRecDepth 20000 in
theorem gX11_weakest_X11_refuse : GoodIn wsX11_weakest (wsV RX11 72 RX11 yX11_refuse wsX11_refuse) := goodIn_app (goodIn_of _ (by decide +kernel)) ggX11_weakest_X11_refuse
set_option maxRecDepth 20000 in
theorem ggX11_weakest_X11_runPlan : GoodIn wsX11_weakest wsX11_runPlan := goodIn_r _ [18, 2, 1, 19, 20, 21, 22, 23, 24, 25, 26, 27, 28, 29, 30, 31, 32, 33, 34, 35, 36, 37, 38, 39, 40, 41, 42, 43, 44, 45, 46, 47, 48, 49, 50, 51, 52, 53, 54, 55, 56, 57, 58, 59, 60, 61, 62, 63, 64, 65, 66, 67, 68, 69, 70, 71, 72, 73, 74, 75, 76, 77, 78, 79, 80, 81, 82, 83, 84, 85, 86, 87, 88, 89, 90, 91, 96, 97, 98, 99, 100, 101, 102, 103, 104, 105, 106, 107, 108, 109, 110, 111, 112, 113, 114, 115, 116, 117, 118, 119, 120, 121] (by decide +kernel) (by decide +kernel)
set_option maxRecDepth 20000 in
theorem gX11_weakest_X11_runPlan : GoodIn wsX11_weakest (wsV RX11 142 RX11 yX11_runPlan wsX11_runPlan) := goodIn_app (goodIn_of _ (by decide +kernel)) ggX11_weakest_X11_runPlan
set_option maxRecDepth 20000 in
theorem ggX11_weakest_X10_slowest : GoodIn wsX11_weakest wsX10_slowest := goodIn_r _ [95, 26, 55, 57, 59, 110, 111, 112, 113, 114, 115, 116, 117, 118, 119] (by decide +kernel) (by decide +kernel)
set_option maxRecDepth 20000 in
theorem gX11_weakest_X10_slowest : GoodIn wsX11_weakest (wsV RX11 205 RX10 yX10_slowest wsX10_slowest) := goodIn_app (goodIn_of _ (by decide +kernel)) ggX11_weakest_X10_slowest
set_option maxRecDepth 20000 in
theorem ggX11_meadow_X3_has : GoodIn wsX11_meadow wsX3_has := goodIn_r _ [7, 8, 114, 115, 116] (by decide +kernel) (by decide +kernel)
set_option maxRecDepth 20000 in
theorem gX11_meadow_X3_has : GoodIn wsX11_meadow (wsV RX11 117 RX3 yX3_has wsX3_has) := goodIn_app (goodIn_of _ (by decide +kernel)) ggX11_meadow_X3_has
set_option maxRecDepth 20000 in
theorem ggX11_meadow_X11_refuse : GoodIn wsX11_meadow wsX11_refuse := goodIn_r _ [13, 14, 103, 104, 105, 106, 107, 108, 109, 110, 111, 112, 113] (by decide +kernel) (by decide +kernel)
set_option maxRecDepth 20000 in
theorem gX11_meadow_X11_refuse : GoodIn wsX11_meadow (wsV RX11 72 RX11 yX11_refuse wsX11_refuse) := goodIn_app (goodIn_of _ (by decide +kernel)) ggX11_meadow_X11_refuse
set_option maxRecDepth 20000 in
theorem ggX11_meadow_X11_runPlan : GoodIn wsX11_meadow wsX11_runPlan := goodIn_r _ [18, 2, 1, 19, 20, 21, 22, 23, 24, 25, 26, 27, 28, 29, 30, 31, 32, 33, 34, 35, 36, 37, 38, 39, 40, 41, 42, 43, 44, 45, 46, 47, 48, 49, 50, 51, 52, 53, 54, 55, 56, 57, 58, 59, 60, 61, 62, 63, 64, 65, 66, 67, 68, 69, 70, 71, 72, 73, 74, 75, 76, 77, 78, 79, 80, 81, 82, 83, 84, 85, 86, 87, 88, 89, 90, 91, 103, 104, 105, 106, 107, 108, 109, 110, 111, 112, 113, 114, 115, 116, 117, 118, 119, 120, 121, 122, 123, 124, 125, 126, 127, 128] (by decide +kernel) (by decide +kernel)
set_option maxRecDepth 20000 in
theorem gX11_meadow_X11_runPlan : GoodIn wsX11_meadow (wsV RX11 142 RX11 yX11_runPlan wsX11_runPlan) := goodIn_app (goodIn_of _ (by decide +kernel)) ggX11_meadow_X11_runPlan
set_option maxRecDepth 20000 in
theorem ggX11_meadow_X10_secondsOfChanges : GoodIn wsX11_meadow wsX10_secondsOfChanges := goodIn_r _ [95, 26, 55, 58, 57, 117, 118, 119, 120, 121, 122, 123, 124, 125, 126] (by decide +kernel) (by decide +kernel)
set_option maxRecDepth 20000 in
theorem gX11_meadow_X10_secondsOfChanges : GoodIn wsX11_meadow (wsV RX11 208 RX10 yX10_secondsOfChanges wsX10_secondsOfChanges) := goodIn_app (goodIn_of _ (by decide +kernel)) ggX11_meadow_X10_secondsOfChanges
set_option maxRecDepth 20000 in
theorem ggX11_meadow_X11_finishWith : GoodIn wsX11_meadow wsX11_finishWith := goodIn_r _ [99, 2, 1, 19, 20, 100, 101, 102, 61, 62, 63, 21, 22, 23, 24, 25, 26, 27, 28, 29, 30, 31, 32, 33, 34, 35, 36, 37, 38, 39, 40, 41, 42, 43, 44, 45, 46, 47, 48, 49, 50, 51, 52, 53, 54, 55, 56, 57, 58, 59, 60, 64, 65, 66, 67, 68, 69, 70, 71, 72, 73, 74, 75, 76, 77, 78, 79, 80, 81, 82, 83, 84, 85, 86, 87, 88, 89, 90, 91, 103, 104, 105, 106, 107, 108, 109, 110, 111, 112, 113, 114, 115, 116, 117, 118, 119, 120, 121, 122, 127, 128, 123, 124, 125, 126] (by decide +kernel) (by decide +kernel)
set_option maxRecDepth 20000 in
theorem gX11_meadow_X11_finishWith : GoodIn wsX11_meadow (wsV RX11 201 RX11 yX11_finishWith wsX11_finishWith) := goodIn_app (goodIn_of _ (by decide +kernel)) ggX11_meadow_X11_finishWith
set_option maxRecDepth 20000 in
theorem ggX11_leave_X3_has : GoodIn wsX11_leave wsX3_has := goodIn_r _ [10, 11, 113, 114, 115] (by decide +kernel) (by decide +kernel)
set_option maxRecDepth 20000 in
theorem gX11_leave_X3_has : GoodIn wsX11_leave (wsV RX11 117 RX3 yX3_has wsX3_has) := goodIn_app (goodIn_of _ (by decide +kernel)) ggX11_leave_X3_has
set_option maxRecDepth 20000 in
theorem ggX11_leave_X11_refuse : GoodIn wsX11_leave wsX11_refuse := goodIn_r _ [16, 17, 102, 103, 104, 105, 106, 107, 108, 109, 110, 111, 112] (by decide +kernel) (by decide +kernel)
set_option maxRecDepth 20000 in
theorem gX11_leave_X11_refuse : GoodIn wsX11_leave (wsV RX11 72 RX11 yX11_refuse wsX11_refuse) := goodIn_app (goodIn_of _ (by decide +kernel)) ggX11_leave_X11_refuse
set_option maxRecDepth 20000 in
theorem ggX11_leave_X10_load : GoodIn wsX11_leave wsX10_load := goodIn_r _ [22, 23, 24, 25, 26, 27, 28, 29, 30, 31, 32, 33, 34, 35, 36, 37, 38, 39, 40, 41, 42, 43, 44, 45, 46, 120, 121, 122, 123, 124, 125, 116, 117, 118, 119, 126, 127] (by decide +kernel) (by decide +kernel)
set_option maxRecDepth 20000 in
theorem gX11_leave_X10_load : GoodIn wsX11_leave (wsV RX11 164 RX10 yX10_load wsX10_load) := goodIn_app (goodIn_of _ (by decide +kernel)) ggX11_leave_X10_load
set_option maxRecDepth 20000 in
theorem ggX11_leave_X10_leaveOut : GoodIn wsX11_leave wsX10_leaveOut := goodIn_r _ [50, 23, 51, 24, 52, 53, 54, 55, 29, 56, 31, 57, 58, 59, 60, 32, 37, 38, 61, 120, 121, 122, 123, 124, 125, 116, 117, 118, 119, 126, 127] (by decide +kernel) (by decide +kernel)
set_option maxRecDepth 20000 in
theorem gX11_leave_X10_leaveOut : GoodIn wsX11_leave (wsV RX11 211 RX10 yX10_leaveOut wsX10_leaveOut) := goodIn_app (goodIn_of _ (by decide +kernel)) ggX11_leave_X10_leaveOut
set_option maxRecDepth 20000 in
theorem ggX11_leave_X10_run : GoodIn wsX11_leave wsX10_run := goodIn_r _ [65, 24, 66, 23, 51, 52, 67, 68, 69, 25, 70, 71, 72, 73, 74, 75, 76, 77, 78, 29, 79, 38, 37, 32, 80, 81, 82, 83, 84, 85, 86, 87, 88, 89, 90, 91, 92, 93, 94, 95, 96, 97, 98, 99, 100, 101, 120, 121, 122, 123, 124, 125, 126, 127, 116, 117, 118, 119] (by decide +kernel) (by decide +kernel)
set_option maxRecDepth 20000 in
theorem gX11_leave_X10_run : GoodIn wsX11_leave (wsV RX11 168 RX10 yX10_run wsX10_run) := goodIn_app (goodIn_of _ (by decide +kernel)) ggX11_leave_X10_run
set_option maxRecDepth 20000 in
theorem ggX11_order_X3_has : GoodIn wsX11_order wsX3_has := goodIn_r _ [10, 11, 116, 117, 118] (by decide +kernel) (by decide +kernel)
set_option maxRecDepth 20000 in
theorem gX11_order_X3_has : GoodIn wsX11_order (wsV RX11 117 RX3 yX3_has wsX3_has) := goodIn_app (goodIn_of _ (by decide +kernel)) ggX11_order_X3_has
set_option maxRecDepth 20000 in
theorem ggX11_order_X11_refuse : GoodIn wsX11_order wsX11_refuse := goodIn_r _ [16, 17, 105, 106, 107, 108, 109, 110, 111, 112, 113, 114, 115] (by decide +kernel) (by decide +kernel)
set_option maxRecDepth 20000 in
theorem gX11_order_X11_refuse : GoodIn wsX11_order (wsV RX11 72 RX11 yX11_refuse wsX11_refuse) := goodIn_app (goodIn_of _ (by decide +kernel)) ggX11_order_X11_refuse
set_option maxRecDepth 20000 in
theorem ggX11_order_X11_runPlan : GoodIn wsX11_order wsX11_runPlan := goodIn_r _ [21, 4, 1, 2, 22, 23, 24, 25, 26, 27, 28, 29, 30, 31, 32, 33, 34, 35, 36, 37, 38, 39, 40, 41, 42, 43, 44, 45, 46, 47, 48, 49, 50, 51, 52, 53, 54, 55, 56, 57, 58, 59, 60, 61, 62, 63, 64, 65, 66, 67, 68, 69, 70, 71, 72, 73, 74, 75, 76, 77, 78, 79, 80, 81, 82, 83, 84, 85, 86, 87, 88, 89, 90, 91, 92, 93, 105, 106, 107, 108, 109, 110, 111, 112, 113, 114, 115, 116, 117, 118, 123, 124, 125, 126, 127, 128, 119, 120, 121, 122, 129, 130] (by decide +kernel) (by decide +kernel)
set_option maxRecDepth 20000 in
theorem gX11_order_X11_runPlan : GoodIn wsX11_order (wsV RX11 142 RX11 yX11_runPlan wsX11_runPlan) := goodIn_app (goodIn_of _ (by decide +kernel)) ggX11_order_X11_runPlan
set_option maxRecDepth 20000 in
theorem ggX11_order_X1_exchange : GoodIn wsX11_order wsX1_exchange := goodIn_r _ [97, 37, 42, 43, 98, 99, 100, 34, 101, 36, 102, 103, 104, 119, 120, 121, 122] (by decide +kernel) (by decide +kernel)
set_option maxRecDepth 20000 in
theorem gX11_order_X1_exchange : GoodIn wsX11_order (wsV RX11 134 RX1 yX1_exchange wsX1_exchange) := goodIn_app (goodIn_of _ (by decide +kernel)) ggX11_order_X1_exchange
set_option maxRecDepth 20000 in
theorem ggX11_order_X10_run : GoodIn wsX11_order wsX10_run := goodIn_r _ [55, 29, 56, 28, 57, 58, 59, 60, 61, 30, 62, 63, 64, 65, 66, 67, 68, 69, 70, 34, 71, 43, 42, 37, 72, 73, 74, 75, 76, 77, 78, 79, 80, 81, 82, 83, 84, 85, 86, 87, 88, 89, 90, 91, 92, 93, 123, 124, 125, 126, 127, 128, 129, 130, 119, 120, 121, 122] (by decide +kernel) (by decide +kernel)
set_option maxRecDepth 20000 in
theorem gX11_order_X10_run : GoodIn wsX11_order (wsV RX11 168 RX10 yX10_run wsX10_run) := goodIn_app (goodIn_of _ (by decide +kernel)) ggX11_order_X10_run
set_option maxRecDepth 20000 in
theorem ggX11_puncture_X11_refusalOfOdds : GoodIn wsX11_puncture wsX11_refusalOfOdds := goodIn_r _ [8, 2, 9, 10, 11, 12, 13, 14, 118, 119, 120, 121, 122, 123, 124, 125, 126, 127, 128, 129, 130, 131] (by decide +kernel) (by decide +kernel)
set_option maxRecDepth 20000 in
theorem gX11_puncture_X11_refusalOfOdds : GoodIn wsX11_puncture (wsV RX11 215 RX11 yX11_refusalOfOdds wsX11_refusalOfOdds) := goodIn_app (goodIn_of _ (by decide +kernel)) ggX11_puncture_X11_refusalOfOdds
set_option maxRecDepth 20000 in
theorem ggX11_puncture_X11_isPart : GoodIn wsX11_puncture wsX11_isPart := goodIn_r _ [17] (by decide +kernel) (by decide +kernel)
set_option maxRecDepth 20000 in
theorem gX11_puncture_X11_isPart : GoodIn wsX11_puncture (va_wsS RX11 219 yX11_isPart wsX11_isPart) := goodIn_app (goodIn_of _ (by decide +kernel)) ggX11_puncture_X11_isPart
set_option maxRecDepth 20000 in
theorem ggX11_puncture_X11_refuse : GoodIn wsX11_puncture wsX11_refuse := goodIn_r _ [21, 22, 118, 119, 120, 121, 122, 123, 124, 125, 126, 127, 128] (by decide +kernel) (by decide +kernel)
set_option maxRecDepth 20000 in
theorem gX11_puncture_X11_refuse : GoodIn wsX11_puncture (wsV RX11 72 RX11 yX11_refuse wsX11_refuse) := goodIn_app (goodIn_of _ (by decide +kernel)) ggX11_puncture_X11_refuse
set_option maxRecDepth 20000 in
theorem ggX11_puncture_X11_runPlan : GoodIn wsX11_puncture wsX11_runPlan := goodIn_r _ [26, 27, 2, 3, 28, 29, 30, 31, 32, 33, 34, 35, 36, 37, 38, 39, 40, 41, 42, 43, 44, 45, 46, 47, 48, 49, 50, 51, 52, 53, 54, 55, 56, 57, 58, 59, 60, 61, 62, 63, 64, 65, 66, 67, 68, 69, 70, 71, 72, 73, 74, 75, 76, 77, 78, 79, 80, 81, 82, 83, 84, 85, 86, 87, 88, 89, 90, 91, 92, 93, 94, 95, 96, 97, 98, 99, 118, 119, 120, 121, 122, 123, 124, 125, 126, 127, 128, 129, 130, 131, 132, 133, 134, 135, 136, 137, 138, 139, 140, 141, 142, 143] (by decide +kernel) (by decide +kernel)
set_option maxRecDepth 20000 in
theorem gX11_puncture_X11_runPlan : GoodIn wsX11_puncture (wsV RX11 142 RX11 yX11_runPlan wsX11_runPlan) := goodIn_app (goodIn_of _ (by decide +kernel)) ggX11_puncture_X11_runPlan
set_option maxRecDepth 20000 in
theorem ggX11_puncture_X1_rides : GoodIn wsX11_puncture wsX1_rides := goodIn_r _ [103, 42, 43, 83, 84, 85, 86, 138, 139, 140, 141] (by decide +kernel) (by decide +kernel)
set_option maxRecDepth 20000 in
theorem gX11_puncture_X1_rides : GoodIn wsX11_puncture (wsV RX11 224 RX1 yX1_rides wsX1_rides) := goodIn_app (goodIn_of _ (by decide +kernel)) ggX11_puncture_X1_rides
set_option maxRecDepth 20000 in
theorem ggX11_puncture_X6_waysWithin : GoodIn wsX11_puncture wsX6_waysWithin := goodIn_r _ [107, 108, 109, 106, 110] (by decide +kernel) (by decide +kernel)
set_option maxRecDepth 20000 in
theorem gX11_puncture_X6_waysWithin : GoodIn wsX11_puncture (va_wsS RX11 227 yX6_waysWithin wsX6_waysWithin) := goodIn_app (goodIn_of _ (by decide +kernel)) ggX11_puncture_X6_waysWithin
set_option maxRecDepth 20000 in
theorem ggX11_puncture_X6_power : GoodIn wsX11_puncture wsX6_power := goodIn_r _ [110] (by decide +kernel) (by decide +kernel)
set_option maxRecDepth 20000 in
theorem gX11_puncture_X6_power : GoodIn wsX11_puncture (va_wsS RX11 233 yX6_power wsX6_power) := goodIn_app (goodIn_of _ (by decide +kernel)) ggX11_puncture_X6_power
set_option maxRecDepth 20000 in
theorem ggX11_puncture_X6_partInLeastTerms : GoodIn wsX11_puncture wsX6_partInLeastTerms := goodIn_r _ [114, 115, 116, 106, 117] (by decide +kernel) (by decide +kernel)
set_option maxRecDepth 20000 in
theorem gX11_puncture_X6_partInLeastTerms : GoodIn wsX11_puncture (va_wsS RX11 237 yX6_partInLeastTerms wsX6_partInLeastTerms) := goodIn_app (goodIn_of _ (by decide +kernel)) ggX11_puncture_X6_partInLeastTerms
set_option maxRecDepth 20000 in
theorem ggX11_mean_X11_refusalOfOdds : GoodIn wsX11_mean wsX11_refusalOfOdds := goodIn_r _ [8, 2, 9, 10, 11, 12, 13, 14, 111, 112, 113, 114, 115, 116, 117, 118, 119, 120, 121, 122, 123, 124] (by decide +kernel) (by decide +kernel)
set_option maxRecDepth 20000 in
theorem gX11_mean_X11_refusalOfOdds : GoodIn wsX11_mean (wsV RX11 215 RX11 yX11_refusalOfOdds wsX11_refusalOfOdds) := goodIn_app (goodIn_of _ (by decide +kernel)) ggX11_mean_X11_refusalOfOdds
set_option maxRecDepth 20000 in
theorem ggX11_mean_X11_isPart : GoodIn wsX11_mean wsX11_isPart := goodIn_r _ [17] (by decide +kernel) (by decide +kernel)
set_option maxRecDepth 20000 in
theorem gX11_mean_X11_isPart : GoodIn wsX11_mean (va_wsS RX11 219 yX11_isPart wsX11_isPart) := goodIn_app (goodIn_of _ (by decide +kernel)) ggX11_mean_X11_isPart
set_option maxRecDepth 20000 in
theorem ggX11_mean_X11_refuse : GoodIn wsX11_mean wsX11_refuse := goodIn_r _ [21, 22, 111, 112, 113, 114, 115, 116, 117, 118, 119, 120, 121] (by decide +kernel) (by decide +kernel)
set_option maxRecDepth 20000 in
theorem gX11_mean_X11_refuse : GoodIn wsX11_mean (wsV RX11 72 RX11 yX11_refuse wsX11_refuse) := goodIn_app (goodIn_of _ (by decide +kernel)) ggX11_mean_X11_refuse
set_option maxRecDepth 20000 in
theorem ggX11_mean_X11_runPlan : GoodIn wsX11_mean wsX11_runPlan := goodIn_r _ [26, 27, 2, 3, 28, 29, 30, 31, 32, 33, 34, 35, 36, 37, 38, 39, 40, 41, 42, 43, 44, 45, 46, 47, 48, 49, 50, 51, 52, 53, 54, 55, 56, 57, 58, 59, 60, 61, 62, 63, 64, 65, 66, 67, 68, 69, 70, 71, 72, 73, 74, 75, 76, 77, 78, 79, 80, 81, 82, 83, 84, 85, 86, 87, 88, 89, 90, 91, 92, 93, 94, 95, 96, 97, 98, 99, 111, 112, 113, 114, 115, 116, 117, 118, 119, 120, 121, 122, 123, 124, 125, 126, 127, 128, 129, 130, 131, 132, 133, 134, 135, 136] (by decide +kernel) (by decide +kernel)
set_option maxRecDepth 20000 in
theorem gX11_mean_X11_runPlan : GoodIn wsX11_mean (wsV RX11 142 RX11 yX11_runPlan wsX11_runPlan) := goodIn_app (goodIn_of _ (by decide +kernel)) ggX11_mean_X11_runPlan
set_option maxRecDepth 20000 in
theorem ggX11_mean_X1_rides : GoodIn wsX11_mean wsX1_rides := goodIn_r _ [103, 42, 43, 83, 84, 85, 86, 131, 132, 133, 134] (by decide +kernel) (by decide +kernel)
set_option maxRecDepth 20000 in
theorem gX11_mean_X1_rides : GoodIn wsX11_mean (wsV RX11 224 RX1 yX1_rides wsX1_rides) := goodIn_app (goodIn_of _ (by decide +kernel)) ggX11_mean_X1_rides
set_option maxRecDepth 20000 in
theorem ggX11_mean_X6_partInLeastTerms : GoodIn wsX11_mean wsX6_partInLeastTerms := goodIn_r _ [107, 108, 109, 106, 110] (by decide +kernel) (by decide +kernel)
set_option maxRecDepth 20000 in
theorem gX11_mean_X6_partInLeastTerms : GoodIn wsX11_mean (va_wsS RX11 237 yX6_partInLeastTerms wsX6_partInLeastTerms) := goodIn_app (goodIn_of _ (by decide +kernel)) ggX11_mean_X6_partInLeastTerms
set_option maxRecDepth 20000 in
theorem ggX11_tube_X11_refusalOfOdds : GoodIn wsX11_tube wsX11_refusalOfOdds := goodIn_r _ [7, 1, 8, 9, 10, 11, 12, 13, 30, 31, 32, 33, 34, 35, 36, 37, 38, 39, 40, 41, 42, 43] (by decide +kernel) (by decide +kernel)
set_option maxRecDepth 20000 in
theorem gX11_tube_X11_refusalOfOdds : GoodIn wsX11_tube (wsV RX11 215 RX11 yX11_refusalOfOdds wsX11_refusalOfOdds) := goodIn_app (goodIn_of _ (by decide +kernel)) ggX11_tube_X11_refusalOfOdds
set_option maxRecDepth 20000 in
theorem ggX11_tube_X11_refuse : GoodIn wsX11_tube wsX11_refuse := goodIn_r _ [17, 18, 30, 31, 32, 33, 34, 35, 36, 37, 38, 39, 40] (by decide +kernel) (by decide +kernel)
set_option maxRecDepth 20000 in
theorem gX11_tube_X11_refuse : GoodIn wsX11_tube (wsV RX11 72 RX11 yX11_refuse wsX11_refuse) := goodIn_app (goodIn_of _ (by decide +kernel)) ggX11_tube_X11_refuse
set_option maxRecDepth 20000 in
theorem ggX11_tube_X1_rides : GoodIn wsX11_tube wsX1_rides := goodIn_r _ [23, 24, 25, 26, 27, 28, 29, 44, 45, 46, 47] (by decide +kernel) (by decide +kernel)
set_option maxRecDepth 20000 in
theorem gX11_tube_X1_rides : GoodIn wsX11_tube (wsV RX11 224 RX1 yX1_rides wsX1_rides) := goodIn_app (goodIn_of _ (by decide +kernel)) ggX11_tube_X1_rides
set_option maxRecDepth 20000 in
theorem ggX11_draw_X3_has : GoodIn wsX11_draw wsX3_has := goodIn_r _ [7, 8, 104, 105, 106] (by decide +kernel) (by decide +kernel)
set_option maxRecDepth 20000 in
theorem gX11_draw_X3_has : GoodIn wsX11_draw (wsV RX11 117 RX3 yX3_has wsX3_has) := goodIn_app (goodIn_of _ (by decide +kernel)) ggX11_draw_X3_has
set_option maxRecDepth 20000 in
theorem ggX11_draw_X11_refuse : GoodIn wsX11_draw wsX11_refuse := goodIn_r _ [13, 14, 93, 94, 95, 96, 97, 98, 99, 100, 101, 102, 103] (by decide +kernel) (by decide +kernel)
set_option maxRecDepth 20000 in
theorem gX11_draw_X11_refuse : GoodIn wsX11_draw (wsV RX11 72 RX11 yX11_refuse wsX11_refuse) := goodIn_app (goodIn_of _ (by decide +kernel)) ggX11_draw_X11_refuse
set_option maxRecDepth 20000 in
theorem ggX11_draw_X11_runPlan : GoodIn wsX11_draw wsX11_runPlan := goodIn_r _ [18, 19, 1, 20, 21, 22, 23, 24, 25, 26, 27, 28, 29, 30, 31, 32, 33, 34, 35, 36, 37, 38, 39, 40, 41, 42, 43, 44, 45, 46, 47, 48, 49, 50, 51, 52, 53, 54, 55, 56, 57, 58, 59, 60, 61, 62, 63, 64, 65, 66, 67, 68, 69, 70, 71, 72, 73, 74, 75, 76, 77, 78, 79, 80, 81, 82, 83, 84, 85, 86, 87, 88, 89, 90, 91, 92, 93, 94, 95, 96, 97, 98, 99, 100, 101, 102, 103, 104, 105, 106, 107, 108, 109, 110, 111, 112, 113, 114, 115, 116, 117, 118] (by decide +kernel) (by decide +kernel)
set_option maxRecDepth 20000 in
theorem gX11_draw_X11_runPlan : GoodIn wsX11_draw (wsV RX11 142 RX11 yX11_runPlan wsX11_runPlan) := goodIn_app (goodIn_of _ (by decide +kernel)) ggX11_draw_X11_runPlan
set_option maxRecDepth 20000 in
theorem ggX11_two_X3_has : GoodIn wsX11_two wsX3_has := goodIn_r _ [10, 11, 125, 126, 127] (by decide +kernel) (by decide +kernel)
set_option maxRecDepth 20000 in
theorem gX11_two_X3_has : GoodIn wsX11_two (wsV RX11 117 RX3 yX3_has wsX3_has) := goodIn_app (goodIn_of _ (by decide +kernel)) ggX11_two_X3_has
set_option maxRecDepth 20000 in
theorem ggX11_two_X1_has : GoodIn wsX11_two wsX1_has := goodIn_r _ [16, 17, 130, 131, 132, 133] (by decide +kernel) (by decide +kernel)
set_option maxRecDepth 20000 in
theorem gX11_two_X1_has : GoodIn wsX11_two (wsV RX11 97 RX1 yX1_has wsX1_has) := goodIn_app (goodIn_of _ (by decide +kernel)) ggX11_two_X1_has
set_option maxRecDepth 20000 in
theorem ggX11_two_X11_refuse : GoodIn wsX11_two wsX11_refuse := goodIn_r _ [22, 23, 114, 115, 116, 117, 118, 119, 120, 121, 122, 123, 124] (by decide +kernel) (by decide +kernel)
set_option maxRecDepth 20000 in
theorem gX11_two_X11_refuse : GoodIn wsX11_two (wsV RX11 72 RX11 yX11_refuse wsX11_refuse) := goodIn_app (goodIn_of _ (by decide +kernel)) ggX11_two_X11_refuse
set_option maxRecDepth 20000 in
theorem ggX11_two_X11_finishTrying : GoodIn wsX11_two wsX11_finishTrying := goodIn_r _ [27, 28, 1, 2, 29, 30, 31, 32, 33, 34, 35, 36, 37, 38, 39, 40, 41, 42, 15, 43, 17, 44, 45, 46, 47, 48, 49, 50, 51, 52, 53, 54, 55, 56, 57, 58, 59, 60, 61, 62, 63, 64, 65, 66, 67, 68, 69, 70, 71, 72, 73, 74, 75, 76, 77, 78, 79, 80, 81, 82, 83, 84, 85, 86, 87, 88, 89, 90, 91, 92, 93, 94, 95, 96, 97, 98, 99, 100, 114, 115, 116, 117, 118, 119, 120, 121, 122, 123, 124, 125, 126, 127, 134, 135, 136, 137, 138, 139, 140, 141, 130, 131, 132, 133] (by decide +kernel) (by decide +kernel)
set_option maxRecDepth 20000 in
theorem gX11_two_X11_finishTrying : GoodIn wsX11_two (wsV RX11 245 RX11 yX11_finishTrying wsX11_finishTrying) := goodIn_app (goodIn_of _ (by decide +kernel)) ggX11_two_X11_finishTrying
set_option maxRecDepth 20000 in
theorem ggX11_two_X2_settled : GoodIn wsX11_two wsX2_settled := goodIn_r _ [105, 106, 107, 108, 109, 104, 110, 111, 112, 113, 128, 129] (by decide +kernel) (by decide +kernel)
set_option maxRecDepth 20000 in
theorem gX11_two_X2_settled : GoodIn wsX11_two (wsV RX11 251 RX2 yX2_settled wsX2_settled) := goodIn_app (goodIn_of _ (by decide +kernel)) ggX11_two_X2_settled
set_option maxRecDepth 20000 in
theorem ggX11_whatWas_X1_has : GoodIn wsX11_whatWas wsX1_has := goodIn_r _ [10, 11, 128, 129, 130, 131] (by decide +kernel) (by decide +kernel)
set_option maxRecDepth 20000 in
theorem gX11_whatWas_X1_has : GoodIn wsX11_whatWas (wsV RX11 97 RX1 yX1_has wsX1_has) := goodIn_app (goodIn_of _ (by decide +kernel)) ggX11_whatWas_X1_has
set_option maxRecDepth 20000 in
theorem ggX11_whatWas_X11_refuse : GoodIn wsX11_whatWas wsX11_refuse := goodIn_r _ [16, 17, 112, 113, 114, 115, 116, 117, 118, 119, 120, 121, 122] (by decide +kernel) (by decide +kernel)
set_option maxRecDepth 20000 in
theorem gX11_whatWas_X11_refuse : GoodIn wsX11_whatWas (wsV RX11 72 RX11 yX11_refuse wsX11_refuse) := goodIn_app (goodIn_of _ (by decide +kernel)) ggX11_whatWas_X11_refuse
set_option maxRecDepth 20000 in
theorem ggX11_whatWas_X11_kindsAsTold : GoodIn wsX11_whatWas wsX11_kindsAsTold := goodIn_r _ [21, 1, 2, 22, 23, 24, 25, 15, 26, 5, 27, 28, 29, 30, 31, 32, 33, 34, 3, 35, 36, 37, 38, 39, 40, 41, 42, 43, 44, 45, 46, 9, 47, 11, 48, 49, 50, 51, 52, 53, 54, 55, 56, 57, 58, 59, 60, 61, 62, 63, 64, 65, 66, 67, 7, 8, 10, 68, 69, 70, 71, 72, 73, 74, 75, 76, 77, 78, 79, 80, 81, 82, 83, 84, 85, 86, 87, 88, 89, 90, 91, 92, 93, 94, 95, 96, 97, 98, 99, 100, 101, 102, 103, 104, 105, 106, 112, 113, 114, 115, 116, 117, 118, 119, 120, 121, 122, 123, 124, 125, 128, 129, 130, 131, 132, 133, 134, 135, 136, 137, 126, 127, 138, 139] (by decide +kernel) (by decide +kernel)
set_option maxRecDepth 20000 in
theorem gX11_whatWas_X11_kindsAsTold : GoodIn wsX11_whatWas (wsV RX11 255 RX11 yX11_kindsAsTold wsX11_kindsAsTold) := goodIn_app (goodIn_of _ (by decide +kernel)) ggX11_whatWas_X11_kindsAsTold
set_option maxRecDepth 20000 in
theorem ggX11_whatWas_X11_figuresAsTold : GoodIn wsX11_whatWas wsX11_figuresAsTold := goodIn_r _ [110, 1, 2, 111, 23, 24, 25, 15, 26, 5, 27, 28, 29, 30, 31, 32, 33, 34, 3, 35, 36, 37, 38, 39, 40, 41, 42, 43, 44, 45, 46, 9, 47, 11, 48, 49, 50, 51, 52, 53, 54, 55, 56, 57, 58, 59, 60, 61, 62, 63, 64, 65, 66, 67, 7, 8, 10, 68, 69, 70, 71, 72, 73, 74, 75, 76, 77, 78, 79, 80, 81, 82, 83, 84, 85, 86, 87, 88, 89, 90, 91, 92, 93, 94, 95, 96, 97, 98, 99, 100, 101, 102, 103, 104, 105, 106, 112, 113, 114, 115, 116, 117, 118, 119, 120, 121, 122, 123, 124, 125, 128, 129, 130, 131, 132, 133, 134, 135, 136, 137, 126, 127, 138, 139] (by decide +kernel) (by decide +kernel)
set_option maxRecDepth 20000 in
theorem gX11_whatWas_X11_figuresAsTold : GoodIn wsX11_whatWas (wsV RX11 258 RX11 yX11_figuresAsTold wsX11_figuresAsTold) := goodIn_app (goodIn_of _ (by decide +kernel)) ggX11_whatWas_X11_figuresAsTold
set_option maxRecDepth 20000 in
theorem ggX11_row_X11_refuse : GoodIn wsX11_row wsX11_refuse := goodIn_r _ [6, 7, 19, 20, 21, 22, 23, 24, 25, 26, 27, 28, 29] (by decide +kernel) (by decide +kernel)
set_option maxRecDepth 20000 in
theorem gX11_row_X11_refuse : GoodIn wsX11_row (wsV RX11 72 RX11 yX11_refuse wsX11_refuse) := goodIn_app (goodIn_of _ (by decide +kernel)) ggX11_row_X11_refuse
set_option maxRecDepth 20000 in
theorem ggX11_row_X8_isFull : GoodIn wsX11_row wsX8_isFull := goodIn_r _ [12, 13, 30, 31] (by decide +kernel) (by decide +kernel)
set_option maxRecDepth 20000 in
theorem gX11_row_X8_isFull : GoodIn wsX11_row (wsV RX11 261 RX8 yX8_isFull wsX8_isFull) := goodIn_app (goodIn_of _ (by decide +kernel)) ggX11_row_X8_isFull
set_option maxRecDepth 20000 in
theorem ggX11_row_X8_put : GoodIn wsX11_row wsX8_put := goodIn_r _ [17, 13, 18, 30, 31] (by decide +kernel) (by decide +kernel)
set_option maxRecDepth 20000 in
theorem gX11_row_X8_put : GoodIn wsX11_row (wsV RX11 262 RX8 yX8_put wsX8_put) := goodIn_app (goodIn_of _ (by decide +kernel)) ggX11_row_X8_put
set_option maxRecDepth 20000 in
theorem ggX11_judge_X3_has : GoodIn wsX11_judge wsX3_has := goodIn_r _ [11, 12, 123, 124, 125] (by decide +kernel) (by decide +kernel)
set_option maxRecDepth 20000 in
theorem gX11_judge_X3_has : GoodIn wsX11_judge (wsV RX11 117 RX3 yX3_has wsX3_has) := goodIn_app (goodIn_of _ (by decide +kernel)) ggX11_judge_X3_has
set_option maxRecDepth 20000 in
theorem ggX11_judge_X11_refuse : GoodIn wsX11_judge wsX11_refuse := goodIn_r _ [17, 18, 106, 107, 108, 109, 110, 111, 112, 113, 114, 115, 116] (by decide +kernel) (by decide +kernel)
set_option maxRecDepth 20000 in
theorem gX11_judge_X11_refuse : GoodIn wsX11_judge (wsV RX11 72 RX11 yX11_refuse wsX11_refuse) := goodIn_app (goodIn_of _ (by decide +kernel)) ggX11_judge_X11_refuse
set_option maxRecDepth 20000 in
theorem ggX11_judge_X11_runPlan : GoodIn wsX11_judge wsX11_runPlan := goodIn_r _ [22, 3, 1, 5, 23, 24, 25, 26, 27, 28, 29, 30, 31, 32, 33, 34, 35, 36, 37, 38, 39, 40, 41, 42, 43, 44, 45, 46, 47, 48, 49, 50, 51, 52, 53, 54, 55, 56, 57, 58, 59, 60, 61, 62, 63, 64, 65, 66, 67, 68, 69, 70, 71, 72, 73, 74, 75, 76, 77, 78, 79, 80, 81, 82, 83, 84, 85, 86, 87, 88, 89, 90, 91, 92, 93, 94, 106, 107, 108, 109, 110, 111, 112, 113, 114, 115, 116, 123, 124, 125, 117, 118, 119, 120, 121, 122, 126, 127, 128, 129, 130, 131] (by decide +kernel) (by decide +kernel)
set_option maxRecDepth 20000 in
theorem gX11_judge_X11_runPlan : GoodIn wsX11_judge (wsV RX11 142 RX11 yX11_runPlan wsX11_runPlan) := goodIn_app (goodIn_of _ (by decide +kernel)) ggX11_judge_X11_runPlan
set_option maxRecDepth 20000 in
theorem ggX11_judge_X8_firstUnlike : GoodIn wsX11_judge wsX8_firstUnlike := goodIn_r _ [99, 100, 101, 132, 133] (by decide +kernel) (by decide +kernel)
set_option maxRecDepth 20000 in
theorem gX11_judge_X8_firstUnlike : GoodIn wsX11_judge (wsV RX11 263 RX8 yX8_firstUnlike wsX8_firstUnlike) := goodIn_app (goodIn_of _ (by decide +kernel)) ggX11_judge_X8_firstUnlike
set_option maxRecDepth 20000 in
theorem ggX11_judge_X8_forget : GoodIn wsX11_judge wsX8_forget := goodIn_r _ [105, 100, 132, 133] (by decide +kernel) (by decide +kernel)
set_option maxRecDepth 20000 in
theorem gX11_judge_X8_forget : GoodIn wsX11_judge (wsV RX11 267 RX8 yX8_forget wsX8_forget) := goodIn_app (goodIn_of _ (by decide +kernel)) ggX11_judge_X8_forget
set_option maxRecDepth 20000 in
theorem ggX11_clear_X8_forget : GoodIn wsX11_clear wsX8_forget := goodIn_r _ [6, 7, 19, 20] (by decide +kernel) (by decide +kernel)
set_option maxRecDepth 20000 in
theorem gX11_clear_X8_forget : GoodIn wsX11_clear (wsV RX11 267 RX8 yX8_forget wsX8_forget) := goodIn_app (goodIn_of _ (by decide +kernel)) ggX11_clear_X8_forget
set_option maxRecDepth 20000 in
theorem ggX11_lots_X11_refuse : GoodIn wsX11_lots wsX11_refuse := goodIn_r _ [10, 11, 102, 103, 104, 105, 106, 107, 108, 109, 110, 111, 112] (by decide +kernel) (by decide +kernel)
set_option maxRecDepth 20000 in
theorem gX11_lots_X11_refuse : GoodIn wsX11_lots (wsV RX11 72 RX11 yX11_refuse wsX11_refuse) := goodIn_app (goodIn_of _ (by decide +kernel)) ggX11_lots_X11_refuse
set_option maxRecDepth 20000 in
theorem ggX11_lots_X11_raceByLot : GoodIn wsX11_lots wsX11_raceByLot := goodIn_r _ [15, 1, 2, 16, 17, 18, 19, 20, 21, 3, 5, 22, 23, 24, 25, 26, 27, 28, 29, 30, 31, 32, 33, 34, 35, 36, 37, 38, 39, 40, 41, 42, 43, 44, 45, 46, 47, 48, 49, 50, 51, 52, 53, 54, 55, 56, 57, 58, 59, 60, 61, 62, 63, 64, 65, 66, 67, 68, 69, 70, 71, 72, 73, 74, 75, 76, 77, 78, 79, 80, 81, 82, 83, 84, 85, 86, 87, 88, 89, 90, 91, 92, 93, 94, 95, 96, 97, 98, 99, 100, 101, 102, 103, 104, 105, 106, 107, 108, 109, 110, 111, 112, 113, 114, 115, 118, 119, 120, 121, 122, 123, 124, 125, 126, 127, 128, 129, 116, 117] (by decide +kernel) (by decide +kernel)
set_option maxRecDepth 20000 in
theorem gX11_lots_X11_raceByLot : GoodIn wsX11_lots (wsV RX11 272 RX11 yX11_raceByLot wsX11_raceByLot) := goodIn_app (goodIn_of _ (by decide +kernel)) ggX11_lots_X11_raceByLot
set_option maxRecDepth 20000 in
theorem ggX11_image_X3_become : GoodIn wsX11_image wsX3_become := goodIn_r _ [10, 11, 12, 13, 14, 15, 16, 17, 18, 19, 20, 21, 22, 23, 24, 25, 26, 27, 28, 29, 30, 31, 32, 33, 34, 46, 47, 48, 49, 50, 51, 52, 53, 54] (by decide +kernel) (by decide +kernel)
set_option maxRecDepth 20000 in
theorem gX11_image_X3_become : GoodIn wsX11_image (wsV RX11 278 RX3 yX3_become wsX3_become) := goodIn_app (goodIn_of _ (by decide +kernel)) ggX11_image_X3_become
set_option maxRecDepth 20000 in
theorem ggX11_on_X11_refuse : GoodIn wsX11_on wsX11_refuse := goodIn_r _ [10, 11, 41, 42, 43, 44, 45, 46, 47, 48, 49, 50, 51] (by decide +kernel) (by decide +kernel)
set_option maxRecDepth 20000 in
theorem gX11_on_X11_refuse : GoodIn wsX11_on (wsV RX11 72 RX11 yX11_refuse wsX11_refuse) := goodIn_app (goodIn_of _ (by decide +kernel)) ggX11_on_X11_refuse
set_option maxRecDepth 20000 in
theorem ggX11_on_X3_become : GoodIn wsX11_on wsX3_become := goodIn_r _ [16, 17, 18, 19, 20, 21, 22, 23, 24, 25, 26, 27, 28, 29, 30, 31, 32, 33, 34, 35, 36, 37, 38, 39, 40, 52, 53, 54, 55, 56, 57, 58, 59, 60] (by decide +kernel) (by decide +kernel)
set_option maxRecDepth 20000 in
theorem gX11_on_X3_become : GoodIn wsX11_on (wsV RX11 278 RX3 yX3_become wsX3_become) := goodIn_app (goodIn_of _ (by decide +kernel)) ggX11_on_X3_become
set_option maxRecDepth 20000 in
theorem ggX11_count_X1_lengths : GoodIn wsX11_count wsX1_lengths := goodIn_r _ [14, 15, 16, 54, 55, 56, 57] (by decide +kernel) (by decide +kernel)
set_option maxRecDepth 20000 in
theorem gX11_count_X1_lengths : GoodIn wsX11_count (wsV RX11 281 RX1 yX1_lengths wsX1_lengths) := goodIn_app (goodIn_of _ (by decide +kernel)) ggX11_count_X1_lengths
set_option maxRecDepth 20000 in
theorem ggX11_count_X1_changes : GoodIn wsX11_count wsX1_changes := goodIn_r _ [20, 15, 21, 54, 55, 56, 57] (by decide +kernel) (by decide +kernel)
set_option maxRecDepth 20000 in
theorem gX11_count_X1_changes : GoodIn wsX11_count (wsV RX11 284 RX1 yX1_changes wsX1_changes) := goodIn_app (goodIn_of _ (by decide +kernel)) ggX11_count_X1_changes
set_option maxRecDepth 20000 in
theorem ggX11_count_X1_rides : GoodIn wsX11_count wsX1_rides := goodIn_r _ [25, 15, 21, 26, 27, 28, 29, 54, 55, 56, 57] (by decide +kernel) (by decide +kernel)
set_option maxRecDepth 20000 in
theorem gX11_count_X1_rides : GoodIn wsX11_count (wsV RX11 224 RX1 yX1_rides wsX1_rides) := goodIn_app (goodIn_of _ (by decide +kernel)) ggX11_count_X1_rides
set_option maxRecDepth 20000 in
theorem ggX11_count_X3_allTries : GoodIn wsX11_count wsX3_allTries := goodIn_r _ [34, 35, 36, 37, 38, 39, 51, 52, 53, 54, 55, 56, 57, 62, 63] (by decide +kernel) (by decide +kernel)
set_option maxRecDepth 20000 in
theorem gX11_count_X3_allTries : GoodIn wsX11_count (wsV RX11 287 RX3 yX3_allTries wsX3_allTries) := goodIn_app (goodIn_of _ (by decide +kernel)) ggX11_count_X3_allTries
set_option maxRecDepth 20000 in
theorem ggX11_runPlan_X10_load : GoodIn wsX11_runPlan wsX10_load := goodIn_r _ [9, 10, 11, 12, 13, 14, 15, 16, 17, 18, 19, 20, 21, 22, 23, 24, 25, 26, 27, 28, 29, 30, 31, 32, 33, 90, 91, 92, 93, 94, 95, 96, 97, 98, 99, 100, 101] (by decide +kernel) (by decide +kernel)
set_option maxRecDepth 20000 in
theorem gX11_runPlan_X10_load : GoodIn wsX11_runPlan (wsV RX11 164 RX10 yX10_load wsX10_load) := goodIn_app (goodIn_of _ (by decide +kernel)) ggX11_runPlan_X10_load
set_option maxRecDepth 20000 in
theorem ggX11_runPlan_X10_run : GoodIn wsX11_runPlan wsX10_run := goodIn_r _ [37, 11, 38, 10, 39, 40, 41, 42, 43, 12, 44, 45, 46, 47, 48, 49, 50, 51, 52, 16, 53, 25, 24, 19, 54, 55, 56, 57, 58, 59, 60, 61, 62, 63, 64, 65, 66, 67, 68, 69, 70, 71, 72, 73, 74, 75, 90, 91, 92, 93, 94, 95, 100, 101, 96, 97, 98, 99] (by decide +kernel) (by decide +kernel)
set_option maxRecDepth 20000 in
theorem gX11_runPlan_X10_run : GoodIn wsX11_runPlan (wsV RX11 168 RX10 yX10_run wsX10_run) := goodIn_app (goodIn_of _ (by decide +kernel)) ggX11_runPlan_X10_run
set_option maxRecDepth 20000 in
theorem ggX11_finishWith_X10_load : GoodIn wsX11_finishWith wsX10_load := goodIn_r _ [15, 16, 17, 18, 19, 20, 21, 22, 23, 24, 25, 26, 27, 28, 29, 30, 31, 32, 33, 34, 35, 36, 37, 38, 39, 93, 94, 95, 96, 97, 98, 101, 102, 103, 104, 99, 100] (by decide +kernel) (by decide +kernel)
set_option maxRecDepth 20000 in
theorem gX11_finishWith_X10_load : GoodIn wsX11_finishWith (wsV RX11 164 RX10 yX10_load wsX10_load) := goodIn_app (goodIn_of _ (by decide +kernel)) ggX11_finishWith_X10_load
set_option maxRecDepth 20000 in
theorem ggX11_finishWith_X10_run : GoodIn wsX11_finishWith wsX10_run := goodIn_r _ [43, 17, 44, 16, 45, 46, 47, 48, 49, 18, 50, 8, 9, 10, 51, 52, 53, 54, 55, 22, 56, 31, 30, 25, 57, 58, 59, 60, 61, 62, 63, 64, 65, 66, 67, 68, 69, 70, 71, 72, 73, 74, 75, 76, 77, 78, 93, 94, 95, 96, 97, 98, 99, 100, 101, 102, 103, 104] (by decide +kernel) (by decide +kernel)
set_option maxRecDepth 20000 in
theorem gX11_finishWith_X10_run : GoodIn wsX11_finishWith (wsV RX11 168 RX10 yX10_run wsX10_run) := goodIn_app (goodIn_of _ (by decide +kernel)) ggX11_finishWith_X10_run
set_option maxRecDepth 20000 in
theorem ggX11_finishTrying_X10_load : GoodIn wsX11_finishTrying wsX10_load := goodIn_r _ [11, 12, 13, 14, 15, 16, 17, 18, 19, 20, 21, 22, 23, 24, 25, 26, 27, 28, 29, 30, 31, 32, 33, 34, 35, 92, 93, 94, 95, 96, 97, 100, 101, 102, 103, 98, 99] (by decide +kernel) (by decide +kernel)
set_option maxRecDepth 20000 in
theorem gX11_finishTrying_X10_load : GoodIn wsX11_finishTrying (wsV RX11 164 RX10 yX10_load wsX10_load) := goodIn_app (goodIn_of _ (by decide +kernel)) ggX11_finishTrying_X10_load
set_option maxRecDepth 20000 in
theorem ggX11_finishTrying_X10_run : GoodIn wsX11_finishTrying wsX10_run := goodIn_r _ [39, 13, 40, 12, 41, 42, 43, 44, 45, 14, 46, 47, 48, 49, 50, 51, 52, 53, 54, 18, 55, 27, 26, 21, 56, 57, 58, 59, 60, 61, 62, 63, 64, 65, 66, 67, 68, 69, 70, 71, 72, 73, 74, 75, 76, 77, 92, 93, 94, 95, 96, 97, 98, 99, 100, 101, 102, 103] (by decide +kernel) (by decide +kernel)
set_option maxRecDepth 20000 in
theorem gX11_finishTrying_X10_run : GoodIn wsX11_finishTrying (wsV RX11 168 RX10 yX10_run wsX10_run) := goodIn_app (goodIn_of _ (by decide +kernel)) ggX11_finishTrying_X10_run
set_option maxRecDepth 20000 in
theorem ggX11_placeBehind_X11_runPlan : GoodIn wsX11_placeBehind wsX11_runPlan := goodIn_r _ [7, 8, 1, 9, 10, 11, 12, 13, 14, 15, 16, 17, 18, 19, 20, 21, 22, 23, 24, 25, 26, 27, 28, 29, 30, 31, 32, 33, 34, 35, 36, 37, 38, 39, 40, 41, 42, 43, 44, 45, 46, 47, 48, 49, 50, 51, 52, 53, 54, 55, 56, 57, 58, 59, 60, 61, 62, 63, 64, 65, 66, 67, 68, 69, 70, 71, 72, 73, 74, 75, 76, 77, 78, 79, 80, 81, 82, 83, 84, 85, 86, 87, 88, 89, 90, 91, 92, 93, 94, 95, 96, 97, 98, 99, 100, 101, 102, 103, 104, 105, 106, 107] (by decide +kernel) (by decide +kernel)
set_option maxRecDepth 20000 in
theorem gX11_placeBehind_X11_runPlan : GoodIn wsX11_placeBehind (wsV RX11 142 RX11 yX11_runPlan wsX11_runPlan) := goodIn_app (goodIn_of _ (by decide +kernel)) ggX11_placeBehind_X11_runPlan
set_option maxRecDepth 20000 in
theorem ggX11_refusalOfOdds_X3_has : GoodIn wsX11_refusalOfOdds wsX3_has := goodIn_r _ [6, 7, 19, 20, 21] (by decide +kernel) (by decide +kernel)
set_option maxRecDepth 20000 in
theorem gX11_refusalOfOdds_X3_has : GoodIn wsX11_refusalOfOdds (wsV RX11 117 RX3 yX3_has wsX3_has) := goodIn_app (goodIn_of _ (by decide +kernel)) ggX11_refusalOfOdds_X3_has
set_option maxRecDepth 20000 in
theorem ggX11_kindsAsTold_X11_isAsTold : GoodIn wsX11_kindsAsTold wsX11_isAsTold := goodIn_r _ [8, 1, 9, 10, 2, 11, 12, 13, 14, 15, 16, 17, 18, 19, 20, 21, 22, 23, 24, 25, 26, 27, 28, 29, 30, 31, 32, 33, 34, 35, 36, 37, 38, 39, 40, 41, 42, 43, 44, 45, 46, 47, 48, 49, 50, 51, 52, 53, 54, 55, 56, 57, 58, 59, 60, 61, 62, 63, 64, 65, 66, 67, 68, 69, 70, 71, 72, 73, 74, 75, 76, 77, 78, 79, 80, 81, 82, 83, 84, 85, 86, 87, 88, 89, 90, 91, 92, 93, 94, 95, 96, 97, 98, 99, 100, 101, 102, 103, 104, 105, 106, 107, 108, 109, 114, 115, 116, 117, 118, 119, 120, 121, 110, 111, 112, 113, 122, 123] (by decide +kernel) (by decide +kernel)
set_option maxRecDepth 20000 in
theorem gX11_kindsAsTold_X11_isAsTold : GoodIn wsX11_kindsAsTold (wsV RX11 301 RX11 yX11_isAsTold wsX11_isAsTold) := goodIn_app (goodIn_of _ (by decide +kernel)) ggX11_kindsAsTold_X11_isAsTold
set_option maxRecDepth 20000 in
theorem ggX11_figuresAsTold_X11_isAsTold : GoodIn wsX11_figuresAsTold wsX11_isAsTold := goodIn_r _ [8, 1, 9, 10, 2, 11, 12, 13, 14, 15, 16, 17, 18, 19, 20, 21, 22, 23, 24, 25, 26, 27, 28, 29, 30, 31, 32, 33, 34, 35, 36, 37, 38, 39, 40, 41, 42, 43, 44, 45, 46, 47, 48, 49, 50, 51, 52, 53, 54, 55, 56, 57, 58, 59, 60, 61, 62, 63, 64, 65, 66, 67, 68, 69, 70, 71, 72, 73, 74, 75, 76, 77, 78, 79, 80, 81, 82, 83, 84, 85, 86, 87, 88, 89, 90, 91, 92, 93, 94, 95, 96, 97, 98, 99, 100, 101, 102, 103, 104, 105, 106, 107, 108, 109, 114, 115, 116, 117, 118, 119, 120, 121, 110, 111, 112, 113, 122, 123] (by decide +kernel) (by decide +kernel)
set_option maxRecDepth 20000 in
theorem gX11_figuresAsTold_X11_isAsTold : GoodIn wsX11_figuresAsTold (wsV RX11 301 RX11 yX11_isAsTold wsX11_isAsTold) := goodIn_app (goodIn_of _ (by decide +kernel)) ggX11_figuresAsTold_X11_isAsTold
set_option maxRecDepth 20000 in
theorem ggX11_isAsTold_X10_load : GoodIn wsX11_isAsTold wsX10_load := goodIn_r _ [18, 19, 20, 21, 22, 23, 24, 25, 26, 27, 28, 29, 30, 31, 32, 33, 34, 35, 36, 37, 38, 39, 40, 41, 42, 104, 105, 106, 107, 108, 109, 112, 113, 114, 115, 116, 117] (by decide +kernel) (by decide +kernel)
set_option maxRecDepth 20000 in
theorem gX11_isAsTold_X10_load : GoodIn wsX11_isAsTold (wsV RX11 164 RX10 yX10_load wsX10_load) := goodIn_app (goodIn_of _ (by decide +kernel)) ggX11_isAsTold_X10_load
set_option maxRecDepth 20000 in
theorem ggX11_isAsTold_X1_become_ : GoodIn wsX11_isAsTold wsX1_become_ := goodIn_r _ [46, 28, 33, 47, 48, 49, 25, 50, 27, 112, 113, 114, 115] (by decide +kernel) (by decide +kernel)
set_option maxRecDepth 20000 in
theorem gX11_isAsTold_X1_become_ : GoodIn wsX11_isAsTold (wsV RX11 130 RX1 yX1_become_ wsX1_become_) := goodIn_app (goodIn_of _ (by decide +kernel)) ggX11_isAsTold_X1_become_
set_option maxRecDepth 20000 in
theorem ggX11_isAsTold_X10_run : GoodIn wsX11_isAsTold wsX10_run := goodIn_r _ [54, 20, 55, 19, 56, 57, 58, 59, 60, 21, 61, 9, 10, 11, 62, 63, 64, 65, 66, 25, 67, 34, 33, 28, 68, 69, 70, 71, 72, 73, 74, 75, 76, 77, 78, 79, 80, 81, 82, 83, 84, 85, 86, 87, 88, 89, 104, 105, 106, 107, 108, 109, 116, 117, 112, 113, 114, 115] (by decide +kernel) (by decide +kernel)
set_option maxRecDepth 20000 in
theorem gX11_isAsTold_X10_run : GoodIn wsX11_isAsTold (wsV RX11 168 RX10 yX10_run wsX10_run) := goodIn_app (goodIn_of _ (by decide +kernel)) ggX11_isAsTold_X10_run
set_option maxRecDepth 20000 in
theorem ggX11_raceByLot_X10_load : GoodIn wsX11_raceByLot wsX10_load := goodIn_r _ [15, 16, 17, 18, 19, 20, 21, 22, 23, 24, 25, 26, 27, 28, 29, 30, 31, 32, 33, 34, 35, 36, 37, 38, 39, 109, 110, 111, 112, 113, 114, 105, 106, 107, 108, 115, 116] (by decide +kernel) (by decide +kernel)
set_option maxRecDepth 20000 in
theorem gX11_raceByLot_X10_load : GoodIn wsX11_raceByLot (wsV RX11 164 RX10 yX10_load wsX10_load) := goodIn_app (goodIn_of _ (by decide +kernel)) ggX11_raceByLot_X10_load
set_option maxRecDepth 20000 in
theorem ggX11_raceByLot_X5_below : GoodIn wsX11_raceByLot wsX5_below := goodIn_r _ [44, 45, 46, 47, 48, 117, 118] (by decide +kernel) (by decide +kernel)
set_option maxRecDepth 20000 in
theorem gX11_raceByLot_X5_below : GoodIn wsX11_raceByLot (wsV RX11 308 RX5 yX5_below wsX5_below) := goodIn_app (goodIn_of _ (by decide +kernel)) ggX11_raceByLot_X5_below
set_option maxRecDepth 20000 in
theorem ggX11_raceByLot_X10_run : GoodIn wsX11_raceByLot wsX10_run := goodIn_r _ [52, 17, 53, 16, 54, 55, 56, 57, 58, 18, 59, 60, 61, 62, 63, 64, 65, 66, 67, 22, 68, 31, 30, 25, 69, 70, 71, 72, 73, 74, 75, 76, 77, 78, 79, 80, 81, 82, 83, 84, 85, 86, 87, 88, 89, 90, 109, 110, 111, 112, 113, 114, 115, 116, 105, 106, 107, 108] (by decide +kernel) (by decide +kernel)
set_option maxRecDepth 20000 in
theorem gX11_raceByLot_X10_run : GoodIn wsX11_raceByLot (wsV RX11 168 RX10 yX10_run wsX10_run) := goodIn_app (goodIn_of _ (by decide +kernel)) ggX11_raceByLot_X10_run
set_option maxRecDepth 20000 in
theorem ggX12_noFar_X12_no : GoodIn wsX12_noFar wsX12_no := goodIn_r _ [6, 7, 8, 9, 10, 11, 12, 13, 14, 15, 16, 17, 18, 19, 20, 21, 22, 23, 24, 25, 26, 27, 28] (by decide +kernel) (by decide +kernel)
set_option maxRecDepth 20000 in
theorem gX12_noFar_X12_no : GoodIn wsX12_noFar (wsV RX12 56 RX12 yX12_no wsX12_no) := goodIn_app (goodIn_of _ (by decide +kernel)) ggX12_noFar_X12_no
set_option maxRecDepth 20000 in
theorem ggX12_noWide_X12_no : GoodIn wsX12_noWide wsX12_no := goodIn_r _ [6, 7, 8, 9, 10, 11, 12, 13, 14, 15, 16, 17, 18, 19, 20, 21, 22, 23, 24, 25, 26, 27, 28] (by decide +kernel) (by decide +kernel)
set_option maxRecDepth 20000 in
theorem gX12_noWide_X12_no : GoodIn wsX12_noWide (wsV RX12 56 RX12 yX12_no wsX12_no) := goodIn_app (goodIn_of _ (by decide +kernel)) ggX12_noWide_X12_no
set_option maxRecDepth 20000 in
theorem ggX12_isSection_X12_isIn : GoodIn wsX12_isSection wsX12_isIn := goodIn_r _ [5] (by decide +kernel) (by decide +kernel)
set_option maxRecDepth 20000 in
theorem gX12_isSection_X12_isIn : GoodIn wsX12_isSection (va_wsS RX12 62 yX12_isIn wsX12_isIn) := goodIn_app (goodIn_of _ (by decide +kernel)) ggX12_isSection_X12_isIn
set_option maxRecDepth 20000 in
theorem ggX12_isAthlete_X12_isIn : GoodIn wsX12_isAthlete wsX12_isIn := goodIn_r _ [5] (by decide +kernel) (by decide +kernel)
set_option maxRecDepth 20000 in
theorem gX12_isAthlete_X12_isIn : GoodIn wsX12_isAthlete (va_wsS RX12 62 yX12_isIn wsX12_isIn) := goodIn_app (goodIn_of _ (by decide +kernel)) ggX12_isAthlete_X12_isIn
set_option maxRecDepth 20000 in
theorem ggX12_isRide_X12_of : GoodIn wsX12_isRide wsX12_of := goodIn_r _ [4] (by decide +kernel) (by decide +kernel)
set_option maxRecDepth 20000 in
theorem gX12_isRide_X12_of : GoodIn wsX12_isRide (va_wsS RX12 66 yX12_of wsX12_of) := goodIn_app (goodIn_of _ (by decide +kernel)) ggX12_isRide_X12_of
set_option maxRecDepth 20000 in
theorem ggX12_isRide_X12_isIn : GoodIn wsX12_isRide wsX12_isIn := goodIn_r _ [7] (by decide +kernel) (by decide +kernel)
set_option maxRecDepth 20000 in
theorem gX12_isRide_X12_isIn : GoodIn wsX12_isRide (va_wsS RX12 62 yX12_isIn wsX12_isIn) := goodIn_app (goodIn_of _ (by decide +kernel)) ggX12_isRide_X12_isIn
set_option maxRecDepth 20000 in
theorem ggX12_takes_X12_of : GoodIn wsX12_takes wsX12_of := goodIn_r _ [4] (by decide +kernel) (by decide +kernel)
set_option maxRecDepth 20000 in
theorem gX12_takes_X12_of : GoodIn wsX12_takes (va_wsS RX12 66 yX12_of wsX12_of) := goodIn_app (goodIn_of _ (by decide +kernel)) ggX12_takes_X12_of
set_option maxRecDepth 20000 in
theorem ggX12_plain_X12_of : GoodIn wsX12_plain wsX12_of := goodIn_r _ [4] (by decide +kernel) (by decide +kernel)
set_option maxRecDepth 20000 in
theorem gX12_plain_X12_of : GoodIn wsX12_plain (va_wsS RX12 66 yX12_of wsX12_of) := goodIn_app (goodIn_of _ (by decide +kernel)) ggX12_plain_X12_of
set_option maxRecDepth 20000 in
theorem ggX12_plain_X12_athleteAt : GoodIn wsX12_plain wsX12_athleteAt := goodIn_r _ [7] (by decide +kernel) (by decide +kernel)
set_option maxRecDepth 20000 in
theorem gX12_plain_X12_athleteAt : GoodIn wsX12_plain (va_wsS RX12 70 yX12_athleteAt wsX12_athleteAt) := goodIn_app (goodIn_of _ (by decide +kernel)) ggX12_plain_X12_athleteAt
set_option maxRecDepth 20000 in
theorem ggX12_plain_X12_isRide : GoodIn wsX12_plain wsX12_isRide := goodIn_r _ [10, 1, 2, 3, 4, 11, 12, 13] (by decide +kernel) (by decide +kernel)
set_option maxRecDepth 20000 in
theorem gX12_plain_X12_isRide : GoodIn wsX12_plain (va_wsS RX12 73 yX12_isRide wsX12_isRide) := goodIn_app (goodIn_of _ (by decide +kernel)) ggX12_plain_X12_isRide
set_option maxRecDepth 20000 in
theorem ggX12_secondsBy_X12_plain : GoodIn wsX12_secondsBy wsX12_plain := goodIn_r _ [4, 5, 6, 3, 7, 8, 9, 10, 11, 12, 13, 14, 15, 16] (by decide +kernel) (by decide +kernel)
set_option maxRecDepth 20000 in
theorem gX12_secondsBy_X12_plain : GoodIn wsX12_secondsBy (va_wsS RX12 77 yX12_plain wsX12_plain) := goodIn_app (goodIn_of _ (by decide +kernel)) ggX12_secondsBy_X12_plain
set_option maxRecDepth 20000 in
theorem ggX12_legsBehind_X12_takes : GoodIn wsX12_legsBehind wsX12_takes := goodIn_r _ [4, 5, 6, 3, 7] (by decide +kernel) (by decide +kernel)
set_option maxRecDepth 20000 in
theorem gX12_legsBehind_X12_takes : GoodIn wsX12_legsBehind (va_wsS RX12 81 yX12_takes wsX12_takes) := goodIn_app (goodIn_of _ (by decide +kernel)) ggX12_legsBehind_X12_takes
set_option maxRecDepth 20000 in
theorem ggX12_legsBehind_X12_of : GoodIn wsX12_legsBehind wsX12_of := goodIn_r _ [7] (by decide +kernel) (by decide +kernel)
set_option maxRecDepth 20000 in
theorem gX12_legsBehind_X12_of : GoodIn wsX12_legsBehind (va_wsS RX12 66 yX12_of wsX12_of) := goodIn_app (goodIn_of _ (by decide +kernel)) ggX12_legsBehind_X12_of
set_option maxRecDepth 20000 in
theorem ggX12_legsBehind_X12_most : GoodIn wsX12_legsBehind wsX12_most := goodIn_r _ [10] (by decide +kernel) (by decide +kernel)
set_option maxRecDepth 20000 in
theorem gX12_legsBehind_X12_most : GoodIn wsX12_legsBehind (va_wsS RX12 85 yX12_most wsX12_most) := goodIn_app (goodIn_of _ (by decide +kernel)) ggX12_legsBehind_X12_most
set_option maxRecDepth 20000 in
theorem ggX12_legsBehind_X12_least : GoodIn wsX12_legsBehind wsX12_least := goodIn_r _ [13] (by decide +kernel) (by decide +kernel)
set_option maxRecDepth 20000 in
theorem gX12_legsBehind_X12_least : GoodIn wsX12_legsBehind (va_wsS RX12 88 yX12_least wsX12_least) := goodIn_app (goodIn_of _ (by decide +kernel)) ggX12_legsBehind_X12_least
set_option maxRecDepth 20000 in
theorem ggX12_goes_X12_athleteAt : GoodIn wsX12_goes wsX12_athleteAt := goodIn_r _ [7] (by decide +kernel) (by decide +kernel)
set_option maxRecDepth 20000 in
theorem gX12_goes_X12_athleteAt : GoodIn wsX12_goes (va_wsS RX12 70 yX12_athleteAt wsX12_athleteAt) := goodIn_app (goodIn_of _ (by decide +kernel)) ggX12_goes_X12_athleteAt
set_option maxRecDepth 20000 in
theorem ggX12_goes_X12_tried : GoodIn wsX12_goes wsX12_tried := goodIn_r _ [10] (by decide +kernel) (by decide +kernel)
set_option maxRecDepth 20000 in
theorem gX12_goes_X12_tried : GoodIn wsX12_goes (va_wsS RX12 91 yX12_tried wsX12_tried) := goodIn_app (goodIn_of _ (by decide +kernel)) ggX12_goes_X12_tried
set_option maxRecDepth 20000 in
theorem ggX12_goes_X12_secondsBy : GoodIn wsX12_goes wsX12_secondsBy := goodIn_r _ [13, 14, 15, 6, 16, 17, 18, 19, 4, 5, 7, 20, 21, 22, 23, 24, 25] (by decide +kernel) (by decide +kernel)
set_option maxRecDepth 20000 in
theorem gX12_goes_X12_secondsBy : GoodIn wsX12_goes (va_wsS RX12 94 yX12_secondsBy wsX12_secondsBy) := goodIn_app (goodIn_of _ (by decide +kernel)) ggX12_goes_X12_secondsBy
set_option maxRecDepth 20000 in
theorem ggX12_goes_X12_legsBehind : GoodIn wsX12_goes wsX12_legsBehind := goodIn_r _ [28, 29, 30, 6, 31, 17, 18, 19, 32, 33, 34, 35, 36, 37] (by decide +kernel) (by decide +kernel)
set_option maxRecDepth 20000 in
theorem gX12_goes_X12_legsBehind : GoodIn wsX12_goes (va_wsS RX12 98 yX12_legsBehind wsX12_legsBehind) := goodIn_app (goodIn_of _ (by decide +kernel)) ggX12_goes_X12_legsBehind
set_option maxRecDepth 20000 in
theorem ggX12_goes_X12_least : GoodIn wsX12_goes wsX12_least := goodIn_r _ [37] (by decide +kernel) (by decide +kernel)
set_option maxRecDepth 20000 in
theorem gX12_goes_X12_least : GoodIn wsX12_goes (va_wsS RX12 88 yX12_least wsX12_least) := goodIn_app (goodIn_of _ (by decide +kernel)) ggX12_goes_X12_least
set_option maxRecDepth 20000 in
theorem ggX12_finishOf_X12_goes : GoodIn wsX12_finishOf wsX12_goes := goodIn_r _ [5, 6, 7, 8, 9, 10, 4, 11, 12, 13, 14, 15, 16, 17, 18, 19, 20, 21, 22, 23, 24, 25, 26, 27, 28, 29, 30, 31, 32, 33, 34, 35, 36, 37, 38, 39, 40, 41, 42, 43, 44, 45, 46, 47, 48, 49, 50, 51, 52, 53, 54, 55, 56, 57, 58, 59, 60, 61, 62] (by decide +kernel) (by decide +kernel)
set_option maxRecDepth 20000 in
theorem gX12_finishOf_X12_goes : GoodIn wsX12_finishOf (wsV RX12 102 RX12 yX12_goes wsX12_goes) := goodIn_app (goodIn_of _ (by decide +kernel)) ggX12_finishOf_X12_goes
set_option maxRecDepth 20000 in
theorem ggX12_letter_X12_no : GoodIn wsX12_letter wsX12_no := goodIn_r _ [7, 8, 9, 10, 11, 12, 13, 14, 15, 16, 17, 18, 19, 20, 21, 22, 23, 24, 25, 26, 27, 28, 29] (by decide +kernel) (by decide +kernel)
set_option maxRecDepth 20000 in
theorem gX12_letter_X12_no : GoodIn wsX12_letter (wsV RX12 56 RX12 yX12_no wsX12_no) := goodIn_app (goodIn_of _ (by decide +kernel)) ggX12_letter_X12_no
set_option maxRecDepth 20000 in
theorem ggX12_readsDigit_X12_here : GoodIn wsX12_readsDigit wsX12_here := goodIn_r _ [8, 3, 9, 10, 14, 15, 16, 17, 18, 19, 20, 21, 22, 23, 24, 25, 26, 27, 28, 29, 30, 31, 32, 33, 34] (by decide +kernel) (by decide +kernel)
set_option maxRecDepth 20000 in
theorem gX12_readsDigit_X12_here : GoodIn wsX12_readsDigit (wsV RX12 112 RX12 yX12_here wsX12_here) := goodIn_app (goodIn_of _ (by decide +kernel)) ggX12_readsDigit_X12_here
set_option maxRecDepth 20000 in
theorem ggX12_readsDigit_X12_isIn : GoodIn wsX12_readsDigit wsX12_isIn := goodIn_r _ [13] (by decide +kernel) (by decide +kernel)
set_option maxRecDepth 20000 in
theorem gX12_readsDigit_X12_isIn : GoodIn wsX12_readsDigit (va_wsS RX12 62 yX12_isIn wsX12_isIn) := goodIn_app (goodIn_of _ (by decide +kernel)) ggX12_readsDigit_X12_isIn
set_option maxRecDepth 20000 in
theorem ggX12_readsDigits_X12_readsDigit : GoodIn wsX12_readsDigits wsX12_readsDigit := goodIn_r _ [5, 6, 7, 8, 9, 10, 11, 4, 12, 13, 14, 15, 16, 17, 18, 19, 20, 21, 22, 23, 24, 25, 26, 27, 28, 29, 30, 31, 32, 33, 34, 35, 36, 37, 38] (by decide +kernel) (by decide +kernel)
set_option maxRecDepth 20000 in
theorem gX12_readsDigits_X12_readsDigit : GoodIn wsX12_readsDigits (wsV RX12 119 RX12 yX12_readsDigit wsX12_readsDigit) := goodIn_app (goodIn_of _ (by decide +kernel)) ggX12_readsDigits_X12_readsDigit
set_option maxRecDepth 20000 in
theorem ggX12_readsKind_X12_here : GoodIn wsX12_readsKind wsX12_here := goodIn_r _ [8, 3, 9, 10, 14, 15, 16, 17, 18, 19, 20, 21, 22, 23, 24, 25, 26, 27, 28, 29, 30, 31, 32, 33, 34] (by decide +kernel) (by decide +kernel)
set_option maxRecDepth 20000 in
theorem gX12_readsKind_X12_here : GoodIn wsX12_readsKind (wsV RX12 112 RX12 yX12_here wsX12_here) := goodIn_app (goodIn_of _ (by decide +kernel)) ggX12_readsKind_X12_here
set_option maxRecDepth 20000 in
theorem ggX12_readsKind_X12_kindBy : GoodIn wsX12_readsKind wsX12_kindBy := goodIn_r _ [13] (by decide +kernel) (by decide +kernel)
set_option maxRecDepth 20000 in
theorem gX12_readsKind_X12_kindBy : GoodIn wsX12_readsKind (va_wsS RX12 123 yX12_kindBy wsX12_kindBy) := goodIn_app (goodIn_of _ (by decide +kernel)) ggX12_readsKind_X12_kindBy
set_option maxRecDepth 20000 in
theorem ggX12_readsPlan_X12_readsDigits : GoodIn wsX12_readsPlan wsX12_readsDigits := goodIn_r _ [5, 6, 7, 8, 4, 9, 10, 11, 12, 13, 14, 15, 16, 17, 18, 19, 20, 21, 22, 23, 24, 25, 26, 27, 28, 29, 30, 31, 32, 33, 34, 35, 36, 37, 38, 39, 40, 41, 42] (by decide +kernel) (by decide +kernel)
set_option maxRecDepth 20000 in
theorem gX12_readsPlan_X12_readsDigits : GoodIn wsX12_readsPlan (wsV RX12 126 RX12 yX12_readsDigits wsX12_readsDigits) := goodIn_app (goodIn_of _ (by decide +kernel)) ggX12_readsPlan_X12_readsDigits
set_option maxRecDepth 20000 in
theorem ggX12_readsPlan_X12_here : GoodIn wsX12_readsPlan wsX12_here := goodIn_r _ [16, 12, 17, 18, 22, 23, 24, 25, 26, 27, 28, 29, 30, 31, 32, 33, 34, 35, 36, 37, 38, 39, 40, 41, 42] (by decide +kernel) (by decide +kernel)
set_option maxRecDepth 20000 in
theorem gX12_readsPlan_X12_here : GoodIn wsX12_readsPlan (wsV RX12 112 RX12 yX12_here wsX12_here) := goodIn_app (goodIn_of _ (by decide +kernel)) ggX12_readsPlan_X12_here
set_option maxRecDepth 20000 in
theorem ggX12_readsPlan_X12_isIn : GoodIn wsX12_readsPlan wsX12_isIn := goodIn_r _ [21] (by decide +kernel) (by decide +kernel)
set_option maxRecDepth 20000 in
theorem gX12_readsPlan_X12_isIn : GoodIn wsX12_readsPlan (va_wsS RX12 62 yX12_isIn wsX12_isIn) := goodIn_app (goodIn_of _ (by decide +kernel)) ggX12_readsPlan_X12_isIn
set_option maxRecDepth 20000 in
theorem ggX12_readsPlan_X12_readsDigit : GoodIn wsX12_readsPlan wsX12_readsDigit := goodIn_r _ [9, 10, 11, 12, 13, 14, 15, 4, 16, 17, 18, 19, 20, 21, 22, 23, 24, 25, 26, 27, 28, 29, 30, 31, 32, 33, 34, 35, 36, 37, 38, 39, 40, 41, 42] (by decide +kernel) (by decide +kernel)
set_option maxRecDepth 20000 in
theorem gX12_readsPlan_X12_readsDigit : GoodIn wsX12_readsPlan (wsV RX12 119 RX12 yX12_readsDigit wsX12_readsDigit) := goodIn_app (goodIn_of _ (by decide +kernel)) ggX12_readsPlan_X12_readsDigit
set_option maxRecDepth 20000 in
theorem ggX12_readsStatement_X12_here : GoodIn wsX12_readsStatement wsX12_here := goodIn_r _ [7, 1, 8, 9, 33, 34, 35, 36, 37, 38, 39, 40, 41, 42, 43, 44, 45, 46, 47, 48, 49, 50, 51, 52, 53] (by decide +kernel) (by decide +kernel)
set_option maxRecDepth 20000 in
theorem gX12_readsStatement_X12_here : GoodIn wsX12_readsStatement (wsV RX12 112 RX12 yX12_here wsX12_here) := goodIn_app (goodIn_of _ (by decide +kernel)) ggX12_readsStatement_X12_here
set_option maxRecDepth 20000 in
theorem ggX12_readsStatement_X12_readsKind : GoodIn wsX12_readsStatement wsX12_readsKind := goodIn_r _ [13, 14, 2, 1, 3, 4, 5, 6, 7, 8, 9, 15, 16, 17, 33, 34, 35, 36, 37, 38, 39, 40, 41, 42, 43, 44, 45, 46, 47, 48, 49, 50, 51, 52, 53] (by decide +kernel) (by decide +kernel)
set_option maxRecDepth 20000 in
theorem gX12_readsStatement_X12_readsKind : GoodIn wsX12_readsStatement (wsV RX12 130 RX12 yX12_readsKind wsX12_readsKind) := goodIn_app (goodIn_of _ (by decide +kernel)) ggX12_readsStatement_X12_readsKind
set_option maxRecDepth 20000 in
theorem ggX12_readsStatement_X12_readsDigits : GoodIn wsX12_readsStatement wsX12_readsDigits := goodIn_r _ [21, 22, 23, 24, 6, 25, 14, 2, 1, 3, 4, 5, 7, 8, 9, 26, 27, 28, 33, 34, 35, 36, 37, 38, 39, 40, 41, 42, 43, 44, 45, 46, 47, 48, 49, 50, 51, 52, 53] (by decide +kernel) (by decide +kernel)
set_option maxRecDepth 20000 in
theorem gX12_readsStatement_X12_readsDigits : GoodIn wsX12_readsStatement (wsV RX12 126 RX12 yX12_readsDigits wsX12_readsDigits) := goodIn_app (goodIn_of _ (by decide +kernel)) ggX12_readsStatement_X12_readsDigits
set_option maxRecDepth 20000 in
theorem ggX12_readsStatement_X12_readsPlan : GoodIn wsX12_readsStatement wsX12_readsPlan := goodIn_r _ [32, 18, 19, 20, 6, 21, 22, 23, 24, 25, 14, 2, 1, 3, 4, 5, 7, 8, 9, 26, 27, 28, 33, 34, 35, 36, 37, 38, 39, 40, 41, 42, 43, 44, 45, 46, 47, 48, 49, 50, 51, 52, 53] (by decide +kernel) (by decide +kernel)
set_option maxRecDepth 20000 in
theorem gX12_readsStatement_X12_readsPlan : GoodIn wsX12_readsStatement (wsV RX12 133 RX12 yX12_readsPlan wsX12_readsPlan) := goodIn_app (goodIn_of _ (by decide +kernel)) ggX12_readsStatement_X12_readsPlan
set_option maxRecDepth 20000 in
theorem ggX12_changes_X12_of : GoodIn wsX12_changes wsX12_of := goodIn_r _ [4] (by decide +kernel) (by decide +kernel)
set_option maxRecDepth 20000 in
theorem gX12_changes_X12_of : GoodIn wsX12_changes (va_wsS RX12 66 yX12_of wsX12_of) := goodIn_app (goodIn_of _ (by decide +kernel)) ggX12_changes_X12_of
set_option maxRecDepth 20000 in
theorem ggX12_isDone_X12_of : GoodIn wsX12_isDone wsX12_of := goodIn_r _ [7] (by decide +kernel) (by decide +kernel)
set_option maxRecDepth 20000 in
theorem gX12_isDone_X12_of : GoodIn wsX12_isDone (va_wsS RX12 66 yX12_of wsX12_of) := goodIn_app (goodIn_of _ (by decide +kernel)) ggX12_isDone_X12_of
set_option maxRecDepth 20000 in
theorem ggX12_isDone_X12_athleteAt : GoodIn wsX12_isDone wsX12_athleteAt := goodIn_r _ [10] (by decide +kernel) (by decide +kernel)
set_option maxRecDepth 20000 in
theorem gX12_isDone_X12_athleteAt : GoodIn wsX12_isDone (va_wsS RX12 70 yX12_athleteAt wsX12_athleteAt) := goodIn_app (goodIn_of _ (by decide +kernel)) ggX12_isDone_X12_athleteAt
set_option maxRecDepth 20000 in
theorem ggX12_isDone_X12_tried : GoodIn wsX12_isDone wsX12_tried := goodIn_r _ [13] (by decide +kernel) (by decide +kernel)
set_option maxRecDepth 20000 in
theorem gX12_isDone_X12_tried : GoodIn wsX12_isDone (va_wsS RX12 91 yX12_tried wsX12_tried) := goodIn_app (goodIn_of _ (by decide +kernel)) ggX12_isDone_X12_tried
set_option maxRecDepth 20000 in
theorem ggX12_isDone_X12_isAthlete : GoodIn wsX12_isDone wsX12_isAthlete := goodIn_r _ [17, 2, 18, 19, 6, 20, 29, 30, 31, 32, 33, 34, 35, 36, 37, 38, 39, 40, 41, 42, 43, 44, 45, 46, 47, 48, 49] (by decide +kernel) (by decide +kernel)
set_option maxRecDepth 20000 in
theorem gX12_isDone_X12_isAthlete : GoodIn wsX12_isDone (wsV RX12 136 RX12 yX12_isAthlete wsX12_isAthlete) := goodIn_app (goodIn_of _ (by decide +kernel)) ggX12_isDone_X12_isAthlete
set_option maxRecDepth 20000 in
theorem ggX12_isDone_X12_isSection : GoodIn wsX12_isDone wsX12_isSection := goodIn_r _ [24, 2, 18, 19, 6, 20, 29, 30, 31, 32, 33, 34, 35, 36, 37, 38, 39, 40, 41, 42, 43, 44, 45, 46, 47, 48, 49] (by decide +kernel) (by decide +kernel)
set_option maxRecDepth 20000 in
theorem gX12_isDone_X12_isSection : GoodIn wsX12_isDone (wsV RX12 139 RX12 yX12_isSection wsX12_isSection) := goodIn_app (goodIn_of _ (by decide +kernel)) ggX12_isDone_X12_isSection
set_option maxRecDepth 20000 in
theorem ggX12_isDone_X12_changes : GoodIn wsX12_isDone wsX12_changes := goodIn_r _ [28, 4, 5, 6, 7] (by decide +kernel) (by decide +kernel)
set_option maxRecDepth 20000 in
theorem gX12_isDone_X12_changes : GoodIn wsX12_isDone (wsV RX12 142 RX12 yX12_changes wsX12_changes) := goodIn_app (goodIn_of _ (by decide +kernel)) ggX12_isDone_X12_changes
set_option maxRecDepth 20000 in
theorem ggX12_race_X12_readsStatement : GoodIn wsX12_race wsX12_readsStatement := goodIn_r _ [9, 1, 10, 11, 12, 13, 8, 14, 2, 15, 16, 17, 18, 19, 20, 21, 22, 23, 24, 25, 26, 27, 28, 29, 30, 31, 32, 33, 34, 35, 36, 37, 38, 67, 68, 69, 70, 71, 72, 73, 74, 75, 76, 77, 78, 79, 80, 81, 82, 83, 84, 85, 86, 87] (by decide +kernel) (by decide +kernel)
set_option maxRecDepth 20000 in
theorem gX12_race_X12_readsStatement : GoodIn wsX12_race (wsV RX12 146 RX12 yX12_readsStatement wsX12_readsStatement) := goodIn_app (goodIn_of _ (by decide +kernel)) ggX12_race_X12_readsStatement
set_option maxRecDepth 20000 in
theorem ggX12_race_X12_lays : GoodIn wsX12_race wsX12_lays := goodIn_r _ [41] (by decide +kernel) (by decide +kernel)
set_option maxRecDepth 20000 in
theorem gX12_race_X12_lays : GoodIn wsX12_race (va_wsS RX12 149 yX12_lays wsX12_lays) := goodIn_app (goodIn_of _ (by decide +kernel)) ggX12_race_X12_lays
set_option maxRecDepth 20000 in
theorem ggX12_race_X12_here : GoodIn wsX12_race wsX12_here := goodIn_r _ [14, 1, 2, 15, 67, 68, 69, 70, 71, 72, 73, 74, 75, 76, 77, 78, 79, 80, 81, 82, 83, 84, 85, 86, 87] (by decide +kernel) (by decide +kernel)
set_option maxRecDepth 20000 in
theorem gX12_race_X12_here : GoodIn wsX12_race (wsV RX12 112 RX12 yX12_here wsX12_here) := goodIn_app (goodIn_of _ (by decide +kernel)) ggX12_race_X12_here
set_option maxRecDepth 20000 in
theorem ggX12_race_X12_isDone : GoodIn wsX12_race wsX12_isDone := goodIn_r _ [45, 20, 3, 10, 46, 47, 8, 48, 49, 50, 51, 52, 53, 54, 55, 56, 57, 58, 32, 33, 34, 59, 60, 61, 62, 63, 64, 65, 66, 67, 68, 69, 70, 71, 72, 73, 74, 75, 76, 77, 78, 79, 80, 81, 82, 83, 84, 85, 86, 87] (by decide +kernel) (by decide +kernel)
set_option maxRecDepth 20000 in
theorem gX12_race_X12_isDone : GoodIn wsX12_race (wsV RX12 153 RX12 yX12_isDone wsX12_isDone) := goodIn_app (goodIn_of _ (by decide +kernel)) ggX12_race_X12_isDone
set_option maxRecDepth 20000 in
theorem ggX12_section_X12_isSection : GoodIn wsX12_section wsX12_isSection := goodIn_r _ [6, 1, 7, 8, 5, 9, 21, 22, 23, 24, 25, 26, 27, 28, 29, 30, 31, 32, 33, 34, 35, 36, 37, 38, 39, 40, 41] (by decide +kernel) (by decide +kernel)
set_option maxRecDepth 20000 in
theorem gX12_section_X12_isSection : GoodIn wsX12_section (wsV RX12 139 RX12 yX12_isSection wsX12_isSection) := goodIn_app (goodIn_of _ (by decide +kernel)) ggX12_section_X12_isSection
set_option maxRecDepth 20000 in
theorem ggX12_section_X12_no : GoodIn wsX12_section wsX12_no := goodIn_r _ [13, 14, 21, 22, 23, 24, 25, 26, 27, 28, 29, 30, 31, 32, 33, 34, 35, 36, 37, 38, 39, 40, 41] (by decide +kernel) (by decide +kernel)
set_option maxRecDepth 20000 in
theorem gX12_section_X12_no : GoodIn wsX12_section (wsV RX12 56 RX12 yX12_no wsX12_no) := goodIn_app (goodIn_of _ (by decide +kernel)) ggX12_section_X12_no
set_option maxRecDepth 20000 in
theorem ggX12_section_X12_isIn : GoodIn wsX12_section wsX12_isIn := goodIn_r _ [9] (by decide +kernel) (by decide +kernel)
set_option maxRecDepth 20000 in
theorem gX12_section_X12_isIn : GoodIn wsX12_section (va_wsS RX12 62 yX12_isIn wsX12_isIn) := goodIn_app (goodIn_of _ (by decide +kernel)) ggX12_section_X12_isIn
set_option maxRecDepth 20000 in
theorem ggX12_section_X12_of : GoodIn wsX12_section wsX12_of := goodIn_r _ [17] (by decide +kernel) (by decide +kernel)
set_option maxRecDepth 20000 in
theorem gX12_section_X12_of : GoodIn wsX12_section (va_wsS RX12 66 yX12_of wsX12_of) := goodIn_app (goodIn_of _ (by decide +kernel)) ggX12_section_X12_of
set_option maxRecDepth 20000 in
theorem ggX12_section_X12_takes : GoodIn wsX12_section wsX12_takes := goodIn_r _ [20, 15, 16, 5, 17] (by decide +kernel) (by decide +kernel)
set_option maxRecDepth 20000 in
theorem gX12_section_X12_takes : GoodIn wsX12_section (va_wsS RX12 81 yX12_takes wsX12_takes) := goodIn_app (goodIn_of _ (by decide +kernel)) ggX12_section_X12_takes
set_option maxRecDepth 20000 in
theorem ggX12_athlete_X12_isAthlete : GoodIn wsX12_athlete wsX12_isAthlete := goodIn_r _ [6, 1, 7, 8, 5, 9, 18, 19, 20, 21, 22, 23, 24, 25, 26, 27, 28, 29, 30, 31, 32, 33, 34, 35, 36, 37, 38] (by decide +kernel) (by decide +kernel)
set_option maxRecDepth 20000 in
theorem gX12_athlete_X12_isAthlete : GoodIn wsX12_athlete (wsV RX12 136 RX12 yX12_isAthlete wsX12_isAthlete) := goodIn_app (goodIn_of _ (by decide +kernel)) ggX12_athlete_X12_isAthlete
set_option maxRecDepth 20000 in
theorem ggX12_athlete_X12_no : GoodIn wsX12_athlete wsX12_no := goodIn_r _ [13, 14, 18, 19, 20, 21, 22, 23, 24, 25, 26, 27, 28, 29, 30, 31, 32, 33, 34, 35, 36, 37, 38] (by decide +kernel) (by decide +kernel)
set_option maxRecDepth 20000 in
theorem gX12_athlete_X12_no : GoodIn wsX12_athlete (wsV RX12 56 RX12 yX12_no wsX12_no) := goodIn_app (goodIn_of _ (by decide +kernel)) ggX12_athlete_X12_no
set_option maxRecDepth 20000 in
theorem ggX12_athlete_X12_isIn : GoodIn wsX12_athlete wsX12_isIn := goodIn_r _ [9] (by decide +kernel) (by decide +kernel)
set_option maxRecDepth 20000 in
theorem gX12_athlete_X12_isIn : GoodIn wsX12_athlete (va_wsS RX12 62 yX12_isIn wsX12_isIn) := goodIn_app (goodIn_of _ (by decide +kernel)) ggX12_athlete_X12_isIn
set_option maxRecDepth 20000 in
theorem ggX12_athlete_X12_athleteAt : GoodIn wsX12_athlete wsX12_athleteAt := goodIn_r _ [17] (by decide +kernel) (by decide +kernel)
set_option maxRecDepth 20000 in
theorem gX12_athlete_X12_athleteAt : GoodIn wsX12_athlete (va_wsS RX12 70 yX12_athleteAt wsX12_athleteAt) := goodIn_app (goodIn_of _ (by decide +kernel)) ggX12_athlete_X12_athleteAt
set_option maxRecDepth 20000 in
theorem ggX12_tries_X12_isAthlete : GoodIn wsX12_tries wsX12_isAthlete := goodIn_r _ [6, 1, 7, 8, 5, 9, 22, 23, 24, 25, 26, 27, 28, 29, 30, 31, 32, 33, 34, 35, 36, 37, 38, 39, 40, 41, 42] (by decide +kernel) (by decide +kernel)
set_option maxRecDepth 20000 in
theorem gX12_tries_X12_isAthlete : GoodIn wsX12_tries (wsV RX12 136 RX12 yX12_isAthlete wsX12_isAthlete) := goodIn_app (goodIn_of _ (by decide +kernel)) ggX12_tries_X12_isAthlete
set_option maxRecDepth 20000 in
theorem ggX12_tries_X12_isSection : GoodIn wsX12_tries wsX12_isSection := goodIn_r _ [13, 1, 7, 8, 5, 9, 22, 23, 24, 25, 26, 27, 28, 29, 30, 31, 32, 33, 34, 35, 36, 37, 38, 39, 40, 41, 42] (by decide +kernel) (by decide +kernel)
set_option maxRecDepth 20000 in
theorem gX12_tries_X12_isSection : GoodIn wsX12_tries (wsV RX12 139 RX12 yX12_isSection wsX12_isSection) := goodIn_app (goodIn_of _ (by decide +kernel)) ggX12_tries_X12_isSection
set_option maxRecDepth 20000 in
theorem ggX12_tries_X12_tried : GoodIn wsX12_tries wsX12_tried := goodIn_r _ [16] (by decide +kernel) (by decide +kernel)
set_option maxRecDepth 20000 in
theorem gX12_tries_X12_tried : GoodIn wsX12_tries (va_wsS RX12 91 yX12_tried wsX12_tried) := goodIn_app (goodIn_of _ (by decide +kernel)) ggX12_tries_X12_tried
set_option maxRecDepth 20000 in
theorem ggX12_tries_X12_no : GoodIn wsX12_tries wsX12_no := goodIn_r _ [20, 21, 22, 23, 24, 25, 26, 27, 28, 29, 30, 31, 32, 33, 34, 35, 36, 37, 38, 39, 40, 41, 42] (by decide +kernel) (by decide +kernel)
set_option maxRecDepth 20000 in
theorem gX12_tries_X12_no : GoodIn wsX12_tries (wsV RX12 56 RX12 yX12_no wsX12_no) := goodIn_app (goodIn_of _ (by decide +kernel)) ggX12_tries_X12_no
set_option maxRecDepth 20000 in
theorem ggX12_turn_X12_isSection : GoodIn wsX12_turn wsX12_isSection := goodIn_r _ [6, 1, 7, 8, 5, 9, 18, 19, 20, 21, 22, 23, 24, 25, 26, 27, 28, 29, 30, 31, 32, 33, 34, 35, 36, 37, 38] (by decide +kernel) (by decide +kernel)
set_option maxRecDepth 20000 in
theorem gX12_turn_X12_isSection : GoodIn wsX12_turn (wsV RX12 139 RX12 yX12_isSection wsX12_isSection) := goodIn_app (goodIn_of _ (by decide +kernel)) ggX12_turn_X12_isSection
set_option maxRecDepth 20000 in
theorem ggX12_turn_X12_no : GoodIn wsX12_turn wsX12_no := goodIn_r _ [13, 14, 18, 19, 20, 21, 22, 23, 24, 25, 26, 27, 28, 29, 30, 31, 32, 33, 34, 35, 36, 37, 38] (by decide +kernel) (by decide +kernel)
set_option maxRecDepth 20000 in
theorem gX12_turn_X12_no : GoodIn wsX12_turn (wsV RX12 56 RX12 yX12_no wsX12_no) := goodIn_app (goodIn_of _ (by decide +kernel)) ggX12_turn_X12_no
set_option maxRecDepth 20000 in
theorem ggX12_turn_X12_isIn : GoodIn wsX12_turn wsX12_isIn := goodIn_r _ [9] (by decide +kernel) (by decide +kernel)
set_option maxRecDepth 20000 in
theorem gX12_turn_X12_isIn : GoodIn wsX12_turn (va_wsS RX12 62 yX12_isIn wsX12_isIn) := goodIn_app (goodIn_of _ (by decide +kernel)) ggX12_turn_X12_isIn
set_option maxRecDepth 20000 in
theorem ggX12_turn_X12_of : GoodIn wsX12_turn wsX12_of := goodIn_r _ [17] (by decide +kernel) (by decide +kernel)
set_option maxRecDepth 20000 in
theorem gX12_turn_X12_of : GoodIn wsX12_turn (va_wsS RX12 66 yX12_of wsX12_of) := goodIn_app (goodIn_of _ (by decide +kernel)) ggX12_turn_X12_of
set_option maxRecDepth 20000 in
theorem ggX12_swap_X12_isSection : GoodIn wsX12_swap wsX12_isSection := goodIn_r _ [6, 1, 7, 8, 5, 9, 22, 23, 24, 25, 26, 27, 28, 29, 30, 31, 32, 33, 34, 35, 36, 37, 38, 39, 40, 41, 42] (by decide +kernel) (by decide +kernel)
set_option maxRecDepth 20000 in
theorem gX12_swap_X12_isSection : GoodIn wsX12_swap (wsV RX12 139 RX12 yX12_isSection wsX12_isSection) := goodIn_app (goodIn_of _ (by decide +kernel)) ggX12_swap_X12_isSection
set_option maxRecDepth 20000 in
theorem ggX12_swap_X12_no : GoodIn wsX12_swap wsX12_no := goodIn_r _ [13, 14, 22, 23, 24, 25, 26, 27, 28, 29, 30, 31, 32, 33, 34, 35, 36, 37, 38, 39, 40, 41, 42] (by decide +kernel) (by decide +kernel)
set_option maxRecDepth 20000 in
theorem gX12_swap_X12_no : GoodIn wsX12_swap (wsV RX12 56 RX12 yX12_no wsX12_no) := goodIn_app (goodIn_of _ (by decide +kernel)) ggX12_swap_X12_no
set_option maxRecDepth 20000 in
theorem ggX12_swap_X12_changes : GoodIn wsX12_swap wsX12_changes := goodIn_r _ [18, 19, 20, 5, 21] (by decide +kernel) (by decide +kernel)
set_option maxRecDepth 20000 in
theorem gX12_swap_X12_changes : GoodIn wsX12_swap (wsV RX12 142 RX12 yX12_changes wsX12_changes) := goodIn_app (goodIn_of _ (by decide +kernel)) ggX12_swap_X12_changes
set_option maxRecDepth 20000 in
theorem ggX12_skill_X12_isAthlete : GoodIn wsX12_skill wsX12_isAthlete := goodIn_r _ [6, 1, 7, 8, 5, 9, 18, 19, 20, 21, 22, 23, 24, 25, 26, 27, 28, 29, 30, 31, 32, 33, 34, 35, 36, 37, 38] (by decide +kernel) (by decide +kernel)
set_option maxRecDepth 20000 in
theorem gX12_skill_X12_isAthlete : GoodIn wsX12_skill (wsV RX12 136 RX12 yX12_isAthlete wsX12_isAthlete) := goodIn_app (goodIn_of _ (by decide +kernel)) ggX12_skill_X12_isAthlete
set_option maxRecDepth 20000 in
theorem ggX12_skill_X12_no : GoodIn wsX12_skill wsX12_no := goodIn_r _ [13, 14, 18, 19, 20, 21, 22, 23, 24, 25, 26, 27, 28, 29, 30, 31, 32, 33, 34, 35, 36, 37, 38] (by decide +kernel) (by decide +kernel)
set_option maxRecDepth 20000 in
theorem gX12_skill_X12_no : GoodIn wsX12_skill (wsV RX12 56 RX12 yX12_no wsX12_no) := goodIn_app (goodIn_of _ (by decide +kernel)) ggX12_skill_X12_no
set_option maxRecDepth 20000 in
theorem ggX12_skill_X12_isIn : GoodIn wsX12_skill wsX12_isIn := goodIn_r _ [9] (by decide +kernel) (by decide +kernel)
set_option maxRecDepth 20000 in
theorem gX12_skill_X12_isIn : GoodIn wsX12_skill (va_wsS RX12 62 yX12_isIn wsX12_isIn) := goodIn_app (goodIn_of _ (by decide +kernel)) ggX12_skill_X12_isIn
set_option maxRecDepth 20000 in
theorem ggX12_skill_X12_athleteAt : GoodIn wsX12_skill wsX12_athleteAt := goodIn_r _ [17] (by decide +kernel) (by decide +kernel)
set_option maxRecDepth 20000 in
theorem gX12_skill_X12_athleteAt : GoodIn wsX12_skill (va_wsS RX12 70 yX12_athleteAt wsX12_athleteAt) := goodIn_app (goodIn_of _ (by decide +kernel)) ggX12_skill_X12_athleteAt
set_option maxRecDepth 20000 in
theorem ggX12_tryHard_X12_isAthlete : GoodIn wsX12_tryHard wsX12_isAthlete := goodIn_r _ [6, 1, 7, 8, 5, 9, 22, 23, 24, 25, 26, 27, 28, 29, 30, 31, 32, 33, 34, 35, 36, 37, 38, 39, 40, 41, 42] (by decide +kernel) (by decide +kernel)
set_option maxRecDepth 20000 in
theorem gX12_tryHard_X12_isAthlete : GoodIn wsX12_tryHard (wsV RX12 136 RX12 yX12_isAthlete wsX12_isAthlete) := goodIn_app (goodIn_of _ (by decide +kernel)) ggX12_tryHard_X12_isAthlete
set_option maxRecDepth 20000 in
theorem ggX12_tryHard_X12_isSection : GoodIn wsX12_tryHard wsX12_isSection := goodIn_r _ [13, 1, 7, 8, 5, 9, 22, 23, 24, 25, 26, 27, 28, 29, 30, 31, 32, 33, 34, 35, 36, 37, 38, 39, 40, 41, 42] (by decide +kernel) (by decide +kernel)
set_option maxRecDepth 20000 in
theorem gX12_tryHard_X12_isSection : GoodIn wsX12_tryHard (wsV RX12 139 RX12 yX12_isSection wsX12_isSection) := goodIn_app (goodIn_of _ (by decide +kernel)) ggX12_tryHard_X12_isSection
set_option maxRecDepth 20000 in
theorem ggX12_tryHard_X12_no : GoodIn wsX12_tryHard wsX12_no := goodIn_r _ [17, 18, 22, 23, 24, 25, 26, 27, 28, 29, 30, 31, 32, 33, 34, 35, 36, 37, 38, 39, 40, 41, 42] (by decide +kernel) (by decide +kernel)
set_option maxRecDepth 20000 in
theorem gX12_tryHard_X12_no : GoodIn wsX12_tryHard (wsV RX12 56 RX12 yX12_no wsX12_no) := goodIn_app (goodIn_of _ (by decide +kernel)) ggX12_tryHard_X12_no
set_option maxRecDepth 20000 in
theorem ggX12_tryHard_X12_tried : GoodIn wsX12_tryHard wsX12_tried := goodIn_r _ [21] (by decide +kernel) (by decide +kernel)
set_option maxRecDepth 20000 in
theorem gX12_tryHard_X12_tried : GoodIn wsX12_tryHard (va_wsS RX12 91 yX12_tried wsX12_tried) := goodIn_app (goodIn_of _ (by decide +kernel)) ggX12_tryHard_X12_tried
set_option maxRecDepth 20000 in
theorem ggX12_by_X12_isAthlete : GoodIn wsX12_by wsX12_isAthlete := goodIn_r _ [9, 1, 10, 11, 8, 12, 60, 61, 62, 63, 64, 65, 66, 67, 68, 69, 70, 71, 72, 73, 74, 75, 76, 77, 78, 79, 80] (by decide +kernel) (by decide +kernel)
set_option maxRecDepth 20000 in
theorem gX12_by_X12_isAthlete : GoodIn wsX12_by (wsV RX12 136 RX12 yX12_isAthlete wsX12_isAthlete) := goodIn_app (goodIn_of _ (by decide +kernel)) ggX12_by_X12_isAthlete
set_option maxRecDepth 20000 in
theorem ggX12_by_X12_isSection : GoodIn wsX12_by wsX12_isSection := goodIn_r _ [16, 1, 10, 11, 8, 12, 60, 61, 62, 63, 64, 65, 66, 67, 68, 69, 70, 71, 72, 73, 74, 75, 76, 77, 78, 79, 80] (by decide +kernel) (by decide +kernel)
set_option maxRecDepth 20000 in
theorem gX12_by_X12_isSection : GoodIn wsX12_by (wsV RX12 139 RX12 yX12_isSection wsX12_isSection) := goodIn_app (goodIn_of _ (by decide +kernel)) ggX12_by_X12_isSection
set_option maxRecDepth 20000 in
theorem ggX12_by_X12_no : GoodIn wsX12_by wsX12_no := goodIn_r _ [20, 21, 60, 61, 62, 63, 64, 65, 66, 67, 68, 69, 70, 71, 72, 73, 74, 75, 76, 77, 78, 79, 80] (by decide +kernel) (by decide +kernel)
set_option maxRecDepth 20000 in
theorem gX12_by_X12_no : GoodIn wsX12_by (wsV RX12 56 RX12 yX12_no wsX12_no) := goodIn_app (goodIn_of _ (by decide +kernel)) ggX12_by_X12_no
set_option maxRecDepth 20000 in
theorem ggX12_by_X12_isIn : GoodIn wsX12_by wsX12_isIn := goodIn_r _ [12] (by decide +kernel) (by decide +kernel)
set_option maxRecDepth 20000 in
theorem gX12_by_X12_isIn : GoodIn wsX12_by (va_wsS RX12 62 yX12_isIn wsX12_isIn) := goodIn_app (goodIn_of _ (by decide +kernel)) ggX12_by_X12_isIn
set_option maxRecDepth 20000 in
theorem ggX12_by_X12_finishOf : GoodIn wsX12_by wsX12_finishOf := goodIn_r _ [25, 26, 27, 28, 8, 29, 2, 3, 4, 30, 31, 32, 33, 34, 35, 36, 37, 38, 39, 40, 41, 42, 43, 44, 45, 46, 47, 10, 11, 12, 48, 49, 50, 51, 52, 53, 54, 55, 56, 57, 58, 59, 60, 61, 62, 63, 64, 65, 66, 67, 68, 69, 70, 71, 72, 73, 74, 75, 76, 77, 78, 79, 80] (by decide +kernel) (by decide +kernel)
set_option maxRecDepth 20000 in
theorem gX12_by_X12_finishOf : GoodIn wsX12_by (wsV RX12 156 RX12 yX12_finishOf wsX12_finishOf) := goodIn_app (goodIn_of _ (by decide +kernel)) ggX12_by_X12_finishOf
set_option maxRecDepth 20000 in
theorem ggX12_finish_X12_isAthlete : GoodIn wsX12_finish wsX12_isAthlete := goodIn_r _ [7, 1, 8, 9, 6, 10, 56, 57, 58, 59, 60, 61, 62, 63, 64, 65, 66, 67, 68, 69, 70, 71, 72, 73, 74, 75, 76] (by decide +kernel) (by decide +kernel)
set_option maxRecDepth 20000 in
theorem gX12_finish_X12_isAthlete : GoodIn wsX12_finish (wsV RX12 136 RX12 yX12_isAthlete wsX12_isAthlete) := goodIn_app (goodIn_of _ (by decide +kernel)) ggX12_finish_X12_isAthlete
set_option maxRecDepth 20000 in
theorem ggX12_finish_X12_no : GoodIn wsX12_finish wsX12_no := goodIn_r _ [14, 15, 56, 57, 58, 59, 60, 61, 62, 63, 64, 65, 66, 67, 68, 69, 70, 71, 72, 73, 74, 75, 76] (by decide +kernel) (by decide +kernel)
set_option maxRecDepth 20000 in
theorem gX12_finish_X12_no : GoodIn wsX12_finish (wsV RX12 56 RX12 yX12_no wsX12_no) := goodIn_app (goodIn_of _ (by decide +kernel)) ggX12_finish_X12_no
set_option maxRecDepth 20000 in
theorem ggX12_finish_X12_isIn : GoodIn wsX12_finish wsX12_isIn := goodIn_r _ [10] (by decide +kernel) (by decide +kernel)
set_option maxRecDepth 20000 in
theorem gX12_finish_X12_isIn : GoodIn wsX12_finish (va_wsS RX12 62 yX12_isIn wsX12_isIn) := goodIn_app (goodIn_of _ (by decide +kernel)) ggX12_finish_X12_isIn
set_option maxRecDepth 20000 in
theorem ggX12_finish_X12_finishOf : GoodIn wsX12_finish wsX12_finishOf := goodIn_r _ [19, 20, 21, 22, 6, 23, 24, 2, 25, 26, 27, 28, 29, 30, 31, 32, 33, 34, 35, 36, 37, 38, 39, 40, 41, 42, 43, 8, 9, 10, 44, 45, 46, 47, 48, 49, 50, 51, 52, 53, 54, 55, 56, 57, 58, 59, 60, 61, 62, 63, 64, 65, 66, 67, 68, 69, 70, 71, 72, 73, 74, 75, 76] (by decide +kernel) (by decide +kernel)
set_option maxRecDepth 20000 in
theorem gX12_finish_X12_finishOf : GoodIn wsX12_finish (wsV RX12 156 RX12 yX12_finishOf wsX12_finishOf) := goodIn_app (goodIn_of _ (by decide +kernel)) ggX12_finish_X12_finishOf
set_option maxRecDepth 20000 in
theorem ggX12_at_X12_isAthlete : GoodIn wsX12_at wsX12_isAthlete := goodIn_r _ [7, 1, 8, 9, 6, 10, 56, 57, 58, 59, 60, 61, 62, 63, 64, 65, 66, 67, 68, 69, 70, 71, 72, 73, 74, 75, 76] (by decide +kernel) (by decide +kernel)
set_option maxRecDepth 20000 in
theorem gX12_at_X12_isAthlete : GoodIn wsX12_at (wsV RX12 136 RX12 yX12_isAthlete wsX12_isAthlete) := goodIn_app (goodIn_of _ (by decide +kernel)) ggX12_at_X12_isAthlete
set_option maxRecDepth 20000 in
theorem ggX12_at_X12_no : GoodIn wsX12_at wsX12_no := goodIn_r _ [14, 15, 56, 57, 58, 59, 60, 61, 62, 63, 64, 65, 66, 67, 68, 69, 70, 71, 72, 73, 74, 75, 76] (by decide +kernel) (by decide +kernel)
set_option maxRecDepth 20000 in
theorem gX12_at_X12_no : GoodIn wsX12_at (wsV RX12 56 RX12 yX12_no wsX12_no) := goodIn_app (goodIn_of _ (by decide +kernel)) ggX12_at_X12_no
set_option maxRecDepth 20000 in
theorem ggX12_at_X12_finishOf : GoodIn wsX12_at wsX12_finishOf := goodIn_r _ [19, 20, 21, 22, 6, 23, 24, 25, 2, 26, 27, 28, 29, 30, 31, 32, 33, 34, 35, 36, 37, 38, 39, 40, 41, 42, 43, 8, 9, 10, 44, 45, 46, 47, 48, 49, 50, 51, 52, 53, 54, 55, 56, 57, 58, 59, 60, 61, 62, 63, 64, 65, 66, 67, 68, 69, 70, 71, 72, 73, 74, 75, 76] (by decide +kernel) (by decide +kernel)
set_option maxRecDepth 20000 in
theorem gX12_at_X12_finishOf : GoodIn wsX12_at (wsV RX12 156 RX12 yX12_finishOf wsX12_finishOf) := goodIn_app (goodIn_of _ (by decide +kernel)) ggX12_at_X12_finishOf
set_option maxRecDepth 20000 in
theorem ggX12_overtakes_X12_isAthlete : GoodIn wsX12_overtakes wsX12_isAthlete := goodIn_r _ [8, 1, 9, 10, 7, 11, 57, 58, 59, 60, 61, 62, 63, 64, 65, 66, 67, 68, 69, 70, 71, 72, 73, 74, 75, 76, 77] (by decide +kernel) (by decide +kernel)
set_option maxRecDepth 20000 in
theorem gX12_overtakes_X12_isAthlete : GoodIn wsX12_overtakes (wsV RX12 136 RX12 yX12_isAthlete wsX12_isAthlete) := goodIn_app (goodIn_of _ (by decide +kernel)) ggX12_overtakes_X12_isAthlete
set_option maxRecDepth 20000 in
theorem ggX12_overtakes_X12_no : GoodIn wsX12_overtakes wsX12_no := goodIn_r _ [15, 16, 57, 58, 59, 60, 61, 62, 63, 64, 65, 66, 67, 68, 69, 70, 71, 72, 73, 74, 75, 76, 77] (by decide +kernel) (by decide +kernel)
set_option maxRecDepth 20000 in
theorem gX12_overtakes_X12_no : GoodIn wsX12_overtakes (wsV RX12 56 RX12 yX12_no wsX12_no) := goodIn_app (goodIn_of _ (by decide +kernel)) ggX12_overtakes_X12_no
set_option maxRecDepth 20000 in
theorem ggX12_overtakes_X12_isIn : GoodIn wsX12_overtakes wsX12_isIn := goodIn_r _ [11] (by decide +kernel) (by decide +kernel)
set_option maxRecDepth 20000 in
theorem gX12_overtakes_X12_isIn : GoodIn wsX12_overtakes (va_wsS RX12 62 yX12_isIn wsX12_isIn) := goodIn_app (goodIn_of _ (by decide +kernel)) ggX12_overtakes_X12_isIn
set_option maxRecDepth 20000 in
theorem ggX12_overtakes_X12_finishOf : GoodIn wsX12_overtakes wsX12_finishOf := goodIn_r _ [20, 21, 22, 23, 7, 24, 25, 26, 3, 27, 28, 29, 30, 31, 32, 33, 34, 35, 36, 37, 38, 39, 40, 41, 42, 43, 44, 9, 10, 11, 45, 46, 47, 48, 49, 50, 51, 52, 53, 54, 55, 56, 57, 58, 59, 60, 61, 62, 63, 64, 65, 66, 67, 68, 69, 70, 71, 72, 73, 74, 75, 76, 77] (by decide +kernel) (by decide +kernel)
set_option maxRecDepth 20000 in
theorem gX12_overtakes_X12_finishOf : GoodIn wsX12_overtakes (wsV RX12 156 RX12 yX12_finishOf wsX12_finishOf) := goodIn_app (goodIn_of _ (by decide +kernel)) ggX12_overtakes_X12_finishOf
set_option maxRecDepth 20000 in
theorem ggX12_findsPlans_X12_withTries : GoodIn wsX12_findsPlans wsX12_withTries := goodIn_r _ [8, 2, 1, 9, 10, 7, 11, 12, 13, 14, 15, 16, 17, 18, 19, 20, 21, 22, 23, 24, 25, 26, 27, 28, 29, 30, 31, 32, 33, 34, 35, 36, 37, 38, 39, 40, 41, 42, 43, 44, 45, 46, 47, 48, 49, 50, 51, 52, 53, 54, 55, 56, 57, 58, 59] (by decide +kernel) (by decide +kernel)
set_option maxRecDepth 20000 in
theorem gX12_findsPlans_X12_withTries : GoodIn wsX12_findsPlans (wsV RX12 159 RX12 yX12_withTries wsX12_withTries) := goodIn_app (goodIn_of _ (by decide +kernel)) ggX12_findsPlans_X12_withTries
set_option maxRecDepth 20000 in
theorem ggX12_findsPlans_X12_least : GoodIn wsX12_findsPlans wsX12_least := goodIn_r _ [38] (by decide +kernel) (by decide +kernel)
set_option maxRecDepth 20000 in
theorem gX12_findsPlans_X12_least : GoodIn wsX12_findsPlans (va_wsS RX12 88 yX12_least wsX12_least) := goodIn_app (goodIn_of _ (by decide +kernel)) ggX12_findsPlans_X12_least
set_option maxRecDepth 20000 in
theorem ggX12_withTries_X12_secondsBy : GoodIn wsX12_withTries wsX12_secondsBy := goodIn_r _ [6, 7, 8, 5, 9, 10, 11, 12, 13, 14, 15, 16, 17, 18, 19, 20, 21] (by decide +kernel) (by decide +kernel)
set_option maxRecDepth 20000 in
theorem gX12_withTries_X12_secondsBy : GoodIn wsX12_withTries (va_wsS RX12 94 yX12_secondsBy wsX12_secondsBy) := goodIn_app (goodIn_of _ (by decide +kernel)) ggX12_withTries_X12_secondsBy
set_option maxRecDepth 20000 in
theorem ggX12_withTries_X12_legsBehind : GoodIn wsX12_withTries wsX12_legsBehind := goodIn_r _ [24, 25, 26, 5, 27, 10, 11, 12, 28, 29, 30, 31, 32, 33] (by decide +kernel) (by decide +kernel)
set_option maxRecDepth 20000 in
theorem gX12_withTries_X12_legsBehind : GoodIn wsX12_withTries (va_wsS RX12 98 yX12_legsBehind wsX12_legsBehind) := goodIn_app (goodIn_of _ (by decide +kernel)) ggX12_withTries_X12_legsBehind
set_option maxRecDepth 20000 in
theorem ggX12_bestPlan_X12_isAthlete : GoodIn wsX12_bestPlan wsX12_isAthlete := goodIn_r _ [7, 1, 8, 9, 6, 10, 56, 57, 58, 59, 60, 61, 62, 63, 64, 65, 66, 67, 68, 69, 70, 71, 72, 73, 74, 75, 76] (by decide +kernel) (by decide +kernel)
set_option maxRecDepth 20000 in
theorem gX12_bestPlan_X12_isAthlete : GoodIn wsX12_bestPlan (wsV RX12 136 RX12 yX12_isAthlete wsX12_isAthlete) := goodIn_app (goodIn_of _ (by decide +kernel)) ggX12_bestPlan_X12_isAthlete
set_option maxRecDepth 20000 in
theorem ggX12_bestPlan_X12_isSection : GoodIn wsX12_bestPlan wsX12_isSection := goodIn_r _ [14, 1, 8, 9, 6, 10, 56, 57, 58, 59, 60, 61, 62, 63, 64, 65, 66, 67, 68, 69, 70, 71, 72, 73, 74, 75, 76] (by decide +kernel) (by decide +kernel)
set_option maxRecDepth 20000 in
theorem gX12_bestPlan_X12_isSection : GoodIn wsX12_bestPlan (wsV RX12 139 RX12 yX12_isSection wsX12_isSection) := goodIn_app (goodIn_of _ (by decide +kernel)) ggX12_bestPlan_X12_isSection
set_option maxRecDepth 20000 in
theorem ggX12_bestPlan_X12_no : GoodIn wsX12_bestPlan wsX12_no := goodIn_r _ [18, 19, 56, 57, 58, 59, 60, 61, 62, 63, 64, 65, 66, 67, 68, 69, 70, 71, 72, 73, 74, 75, 76] (by decide +kernel) (by decide +kernel)
set_option maxRecDepth 20000 in
theorem gX12_bestPlan_X12_no : GoodIn wsX12_bestPlan (wsV RX12 56 RX12 yX12_no wsX12_no) := goodIn_app (goodIn_of _ (by decide +kernel)) ggX12_bestPlan_X12_no
set_option maxRecDepth 20000 in
theorem ggX12_bestPlan_X12_findsPlans : GoodIn wsX12_bestPlan wsX12_findsPlans := goodIn_r _ [23, 2, 1, 24, 25, 26, 27, 6, 28, 29, 30, 31, 32, 33, 34, 35, 36, 37, 38, 39, 40, 41, 42, 43, 8, 9, 10, 44, 45, 46, 47, 48, 49, 50, 51, 52, 53, 54, 55, 56, 57, 58, 59, 60, 61, 62, 63, 64, 65, 66, 67, 68, 69, 70, 71, 72, 73, 74, 75, 76] (by decide +kernel) (by decide +kernel)
set_option maxRecDepth 20000 in
theorem gX12_bestPlan_X12_findsPlans : GoodIn wsX12_bestPlan (wsV RX12 163 RX12 yX12_findsPlans wsX12_findsPlans) := goodIn_app (goodIn_of _ (by decide +kernel)) ggX12_bestPlan_X12_findsPlans
set_option maxRecDepth 20000 in
theorem ggX12_bestPlan_X12_athleteAt : GoodIn wsX12_bestPlan wsX12_athleteAt := goodIn_r _ [40] (by decide +kernel) (by decide +kernel)
set_option maxRecDepth 20000 in
theorem gX12_bestPlan_X12_athleteAt : GoodIn wsX12_bestPlan (va_wsS RX12 70 yX12_athleteAt wsX12_athleteAt) := goodIn_app (goodIn_of _ (by decide +kernel)) ggX12_bestPlan_X12_athleteAt
set_option maxRecDepth 20000 in
theorem ggX12_bestPlan_X12_withTries : GoodIn wsX12_bestPlan wsX12_withTries := goodIn_r _ [28, 1, 2, 29, 30, 6, 31, 32, 33, 34, 35, 36, 37, 38, 39, 40, 41, 42, 43, 8, 9, 10, 44, 45, 46, 47, 48, 49, 50, 51, 52, 53, 54, 55, 56, 57, 58, 59, 60, 61, 62, 63, 64, 65, 66, 67, 68, 69, 70, 71, 72, 73, 74, 75, 76] (by decide +kernel) (by decide +kernel)
set_option maxRecDepth 20000 in
theorem gX12_bestPlan_X12_withTries : GoodIn wsX12_bestPlan (wsV RX12 159 RX12 yX12_withTries wsX12_withTries) := goodIn_app (goodIn_of _ (by decide +kernel)) ggX12_bestPlan_X12_withTries
set_option maxRecDepth 20000 in
theorem ggX12_bestPlan_X12_legsBehind : GoodIn wsX12_bestPlan wsX12_legsBehind := goodIn_r _ [46, 47, 48, 6, 49, 35, 36, 37, 50, 51, 52, 53, 54, 55] (by decide +kernel) (by decide +kernel)
set_option maxRecDepth 20000 in
theorem gX12_bestPlan_X12_legsBehind : GoodIn wsX12_bestPlan (va_wsS RX12 98 yX12_legsBehind wsX12_legsBehind) := goodIn_app (goodIn_of _ (by decide +kernel)) ggX12_bestPlan_X12_legsBehind
set_option maxRecDepth 20000 in
theorem ggX12_hardest_X12_isAthlete : GoodIn wsX12_hardest wsX12_isAthlete := goodIn_r _ [8, 1, 9, 10, 7, 11, 60, 61, 62, 63, 64, 65, 66, 67, 68, 69, 70, 71, 72, 73, 74, 75, 76, 77, 78, 79, 80] (by decide +kernel) (by decide +kernel)
set_option maxRecDepth 20000 in
theorem gX12_hardest_X12_isAthlete : GoodIn wsX12_hardest (wsV RX12 136 RX12 yX12_isAthlete wsX12_isAthlete) := goodIn_app (goodIn_of _ (by decide +kernel)) ggX12_hardest_X12_isAthlete
set_option maxRecDepth 20000 in
theorem ggX12_hardest_X12_no : GoodIn wsX12_hardest wsX12_no := goodIn_r _ [15, 16, 60, 61, 62, 63, 64, 65, 66, 67, 68, 69, 70, 71, 72, 73, 74, 75, 76, 77, 78, 79, 80] (by decide +kernel) (by decide +kernel)
set_option maxRecDepth 20000 in
theorem gX12_hardest_X12_no : GoodIn wsX12_hardest (wsV RX12 56 RX12 yX12_no wsX12_no) := goodIn_app (goodIn_of _ (by decide +kernel)) ggX12_hardest_X12_no
set_option maxRecDepth 20000 in
theorem ggX12_hardest_X12_lays : GoodIn wsX12_hardest wsX12_lays := goodIn_r _ [19] (by decide +kernel) (by decide +kernel)
set_option maxRecDepth 20000 in
theorem gX12_hardest_X12_lays : GoodIn wsX12_hardest (va_wsS RX12 149 yX12_lays wsX12_lays) := goodIn_app (goodIn_of _ (by decide +kernel)) ggX12_hardest_X12_lays
set_option maxRecDepth 20000 in
theorem ggX12_hardest_X12_isRide : GoodIn wsX12_hardest wsX12_isRide := goodIn_r _ [22, 23, 24, 7, 25, 9, 10, 11] (by decide +kernel) (by decide +kernel)
set_option maxRecDepth 20000 in
theorem gX12_hardest_X12_isRide : GoodIn wsX12_hardest (va_wsS RX12 73 yX12_isRide wsX12_isRide) := goodIn_app (goodIn_of _ (by decide +kernel)) ggX12_hardest_X12_isRide
set_option maxRecDepth 20000 in
theorem ggX12_hardest_X12_tried : GoodIn wsX12_hardest wsX12_tried := goodIn_r _ [28] (by decide +kernel) (by decide +kernel)
set_option maxRecDepth 20000 in
theorem gX12_hardest_X12_tried : GoodIn wsX12_hardest (va_wsS RX12 91 yX12_tried wsX12_tried) := goodIn_app (goodIn_of _ (by decide +kernel)) ggX12_hardest_X12_tried
set_option maxRecDepth 20000 in
theorem ggX12_hardest_X12_finishOf : GoodIn wsX12_hardest wsX12_finishOf := goodIn_r _ [32, 33, 34, 35, 7, 36, 37, 3, 38, 39, 40, 41, 26, 27, 28, 42, 43, 44, 45, 46, 47, 23, 24, 25, 20, 21, 22, 9, 10, 11, 48, 49, 50, 51, 52, 53, 54, 55, 56, 57, 58, 59, 60, 61, 62, 63, 64, 65, 66, 67, 68, 69, 70, 71, 72, 73, 74, 75, 76, 77, 78, 79, 80] (by decide +kernel) (by decide +kernel)
set_option maxRecDepth 20000 in
theorem gX12_hardest_X12_finishOf : GoodIn wsX12_hardest (wsV RX12 156 RX12 yX12_finishOf wsX12_finishOf) := goodIn_app (goodIn_of _ (by decide +kernel)) ggX12_hardest_X12_finishOf
set_option maxRecDepth 20000 in
theorem ggX12_hardest_X12_athleteAt : GoodIn wsX12_hardest wsX12_athleteAt := goodIn_r _ [41] (by decide +kernel) (by decide +kernel)
set_option maxRecDepth 20000 in
theorem gX12_hardest_X12_athleteAt : GoodIn wsX12_hardest (va_wsS RX12 70 yX12_athleteAt wsX12_athleteAt) := goodIn_app (goodIn_of _ (by decide +kernel)) ggX12_hardest_X12_athleteAt
set_option maxRecDepth 20000 in
theorem ggX12_leastTries_X12_isAthlete : GoodIn wsX12_leastTries wsX12_isAthlete := goodIn_r _ [9, 3, 10, 11, 8, 12, 45, 46, 47, 48, 49, 50, 51, 52, 53, 54, 55, 56, 57, 58, 59, 60, 61, 62, 63, 64, 65] (by decide +kernel) (by decide +kernel)
set_option maxRecDepth 20000 in
theorem gX12_leastTries_X12_isAthlete : GoodIn wsX12_leastTries (wsV RX12 136 RX12 yX12_isAthlete wsX12_isAthlete) := goodIn_app (goodIn_of _ (by decide +kernel)) ggX12_leastTries_X12_isAthlete
set_option maxRecDepth 20000 in
theorem ggX12_leastTries_X12_no : GoodIn wsX12_leastTries wsX12_no := goodIn_r _ [16, 17, 45, 46, 47, 48, 49, 50, 51, 52, 53, 54, 55, 56, 57, 58, 59, 60, 61, 62, 63, 64, 65] (by decide +kernel) (by decide +kernel)
set_option maxRecDepth 20000 in
theorem gX12_leastTries_X12_no : GoodIn wsX12_leastTries (wsV RX12 56 RX12 yX12_no wsX12_no) := goodIn_app (goodIn_of _ (by decide +kernel)) ggX12_leastTries_X12_no
set_option maxRecDepth 20000 in
theorem ggX12_leastTries_X12_athleteAt : GoodIn wsX12_leastTries wsX12_athleteAt := goodIn_r _ [20] (by decide +kernel) (by decide +kernel)
set_option maxRecDepth 20000 in
theorem gX12_leastTries_X12_athleteAt : GoodIn wsX12_leastTries (va_wsS RX12 70 yX12_athleteAt wsX12_athleteAt) := goodIn_app (goodIn_of _ (by decide +kernel)) ggX12_leastTries_X12_athleteAt
set_option maxRecDepth 20000 in
theorem ggX12_leastTries_X12_legsBehind : GoodIn wsX12_leastTries wsX12_legsBehind := goodIn_r _ [23, 24, 25, 8, 26, 27, 28, 29, 30, 31, 32, 33, 34, 35] (by decide +kernel) (by decide +kernel)
set_option maxRecDepth 20000 in
theorem gX12_leastTries_X12_legsBehind : GoodIn wsX12_leastTries (va_wsS RX12 98 yX12_legsBehind wsX12_legsBehind) := goodIn_app (goodIn_of _ (by decide +kernel)) ggX12_leastTries_X12_legsBehind
set_option maxRecDepth 20000 in
theorem ggX12_leastTries_X12_secondsBy : GoodIn wsX12_leastTries wsX12_secondsBy := goodIn_r _ [38, 39, 40, 8, 41, 27, 28, 29, 18, 19, 20, 42, 43, 44, 10, 11, 12] (by decide +kernel) (by decide +kernel)
set_option maxRecDepth 20000 in
theorem gX12_leastTries_X12_secondsBy : GoodIn wsX12_leastTries (va_wsS RX12 94 yX12_secondsBy wsX12_secondsBy) := goodIn_app (goodIn_of _ (by decide +kernel)) ggX12_leastTries_X12_secondsBy
set_option maxRecDepth 20000 in
theorem ggX12_leastTries_X12_least : GoodIn wsX12_leastTries wsX12_least := goodIn_r _ [35] (by decide +kernel) (by decide +kernel)
set_option maxRecDepth 20000 in
theorem gX12_leastTries_X12_least : GoodIn wsX12_leastTries (va_wsS RX12 88 yX12_least wsX12_least) := goodIn_app (goodIn_of _ (by decide +kernel)) ggX12_leastTries_X12_least
set_option maxRecDepth 20000 in
theorem ggX12_drink_X12_isAthlete : GoodIn wsX12_drink wsX12_isAthlete := goodIn_r _ [6, 1, 7, 8, 5, 9, 56, 57, 58, 59, 60, 61, 62, 63, 64, 65, 66, 67, 68, 69, 70, 71, 72, 73, 74, 75, 76] (by decide +kernel) (by decide +kernel)
set_option maxRecDepth 20000 in
theorem gX12_drink_X12_isAthlete : GoodIn wsX12_drink (wsV RX12 136 RX12 yX12_isAthlete wsX12_isAthlete) := goodIn_app (goodIn_of _ (by decide +kernel)) ggX12_drink_X12_isAthlete
set_option maxRecDepth 20000 in
theorem ggX12_drink_X12_no : GoodIn wsX12_drink wsX12_no := goodIn_r _ [13, 14, 56, 57, 58, 59, 60, 61, 62, 63, 64, 65, 66, 67, 68, 69, 70, 71, 72, 73, 74, 75, 76] (by decide +kernel) (by decide +kernel)
set_option maxRecDepth 20000 in
theorem gX12_drink_X12_no : GoodIn wsX12_drink (wsV RX12 56 RX12 yX12_no wsX12_no) := goodIn_app (goodIn_of _ (by decide +kernel)) ggX12_drink_X12_no
set_option maxRecDepth 20000 in
theorem ggX12_drink_X12_isIn : GoodIn wsX12_drink wsX12_isIn := goodIn_r _ [9] (by decide +kernel) (by decide +kernel)
set_option maxRecDepth 20000 in
theorem gX12_drink_X12_isIn : GoodIn wsX12_drink (va_wsS RX12 62 yX12_isIn wsX12_isIn) := goodIn_app (goodIn_of _ (by decide +kernel)) ggX12_drink_X12_isIn
set_option maxRecDepth 20000 in
theorem ggX12_drink_X12_finishOf : GoodIn wsX12_drink wsX12_finishOf := goodIn_r _ [18, 19, 20, 21, 5, 22, 23, 24, 25, 26, 27, 28, 29, 30, 31, 32, 33, 34, 35, 36, 37, 38, 39, 40, 41, 42, 43, 7, 8, 9, 44, 45, 46, 47, 48, 49, 50, 51, 52, 53, 54, 55, 56, 57, 58, 59, 60, 61, 62, 63, 64, 65, 66, 67, 68, 69, 70, 71, 72, 73, 74, 75, 76] (by decide +kernel) (by decide +kernel)
set_option maxRecDepth 20000 in
theorem gX12_drink_X12_finishOf : GoodIn wsX12_drink (wsV RX12 156 RX12 yX12_finishOf wsX12_finishOf) := goodIn_app (goodIn_of _ (by decide +kernel)) ggX12_drink_X12_finishOf
set_option maxRecDepth 20000 in
theorem ggX12_drink_X12_goes : GoodIn wsX12_drink wsX12_goes := goodIn_r _ [22, 23, 24, 25, 26, 27, 5, 28, 29, 30, 31, 32, 33, 34, 35, 36, 37, 38, 39, 40, 41, 42, 43, 7, 8, 9, 44, 45, 46, 47, 48, 49, 50, 51, 52, 53, 54, 55, 56, 57, 58, 59, 60, 61, 62, 63, 64, 65, 66, 67, 68, 69, 70, 71, 72, 73, 74, 75, 76] (by decide +kernel) (by decide +kernel)
set_option maxRecDepth 20000 in
theorem gX12_drink_X12_goes : GoodIn wsX12_drink (wsV RX12 102 RX12 yX12_goes wsX12_goes) := goodIn_app (goodIn_of _ (by decide +kernel)) ggX12_drink_X12_goes
set_option maxRecDepth 20000 in
theorem ggX12_finishWith_X12_lays : GoodIn wsX12_finishWith wsX12_lays := goodIn_r _ [6] (by decide +kernel) (by decide +kernel)
set_option maxRecDepth 20000 in
theorem gX12_finishWith_X12_lays : GoodIn wsX12_finishWith (va_wsS RX12 149 yX12_lays wsX12_lays) := goodIn_app (goodIn_of _ (by decide +kernel)) ggX12_finishWith_X12_lays
set_option maxRecDepth 20000 in
theorem ggX12_finishWith_X12_athleteAt : GoodIn wsX12_finishWith wsX12_athleteAt := goodIn_r _ [9] (by decide +kernel) (by decide +kernel)
set_option maxRecDepth 20000 in
theorem gX12_finishWith_X12_athleteAt : GoodIn wsX12_finishWith (va_wsS RX12 70 yX12_athleteAt wsX12_athleteAt) := goodIn_app (goodIn_of _ (by decide +kernel)) ggX12_finishWith_X12_athleteAt
set_option maxRecDepth 20000 in
theorem ggX12_finishWith_X12_least : GoodIn wsX12_finishWith wsX12_least := goodIn_r _ [12] (by decide +kernel) (by decide +kernel)
set_option maxRecDepth 20000 in
theorem gX12_finishWith_X12_least : GoodIn wsX12_finishWith (va_wsS RX12 88 yX12_least wsX12_least) := goodIn_app (goodIn_of _ (by decide +kernel)) ggX12_finishWith_X12_least
set_option maxRecDepth 20000 in
theorem ggX12_finishWith_X12_finishOf : GoodIn wsX12_finishWith wsX12_finishOf := goodIn_r _ [16, 17, 18, 19, 5, 20, 21, 22, 23, 7, 8, 9, 24, 25, 26, 27, 28, 29, 30, 31, 32, 33, 34, 35, 36, 37, 38, 39, 40, 41, 42, 43, 44, 45, 46, 47, 48, 49, 50, 10, 11, 12, 51, 52, 53, 54, 55, 56, 57, 58, 59, 60, 61, 62, 63, 64, 65, 66, 67, 68, 69, 70, 71] (by decide +kernel) (by decide +kernel)
set_option maxRecDepth 20000 in
theorem gX12_finishWith_X12_finishOf : GoodIn wsX12_finishWith (wsV RX12 156 RX12 yX12_finishOf wsX12_finishOf) := goodIn_app (goodIn_of _ (by decide +kernel)) ggX12_finishWith_X12_finishOf
set_option maxRecDepth 20000 in
theorem ggX12_train_X12_isAthlete : GoodIn wsX12_train wsX12_isAthlete := goodIn_r _ [6, 1, 7, 8, 5, 9, 69, 70, 71, 72, 73, 74, 75, 76, 77, 78, 79, 80, 81, 82, 83, 84, 85, 86, 87, 88, 89] (by decide +kernel) (by decide +kernel)
set_option maxRecDepth 20000 in
theorem gX12_train_X12_isAthlete : GoodIn wsX12_train (wsV RX12 136 RX12 yX12_isAthlete wsX12_isAthlete) := goodIn_app (goodIn_of _ (by decide +kernel)) ggX12_train_X12_isAthlete
set_option maxRecDepth 20000 in
theorem ggX12_train_X12_noFar : GoodIn wsX12_train wsX12_noFar := goodIn_r _ [13, 14, 15, 16, 17, 5, 18, 19, 69, 70, 71, 72, 73, 74, 75, 76, 77, 78, 79, 80, 81, 82, 83, 84, 85, 86, 87, 88, 89] (by decide +kernel) (by decide +kernel)
set_option maxRecDepth 20000 in
theorem gX12_train_X12_noFar : GoodIn wsX12_train (wsV RX12 167 RX12 yX12_noFar wsX12_noFar) := goodIn_app (goodIn_of _ (by decide +kernel)) ggX12_train_X12_noFar
set_option maxRecDepth 20000 in
theorem ggX12_train_X12_isIn : GoodIn wsX12_train wsX12_isIn := goodIn_r _ [9] (by decide +kernel) (by decide +kernel)
set_option maxRecDepth 20000 in
theorem gX12_train_X12_isIn : GoodIn wsX12_train (va_wsS RX12 62 yX12_isIn wsX12_isIn) := goodIn_app (goodIn_of _ (by decide +kernel)) ggX12_train_X12_isIn
set_option maxRecDepth 20000 in
theorem ggX12_train_X12_finishWith : GoodIn wsX12_train wsX12_finishWith := goodIn_r _ [23, 1, 24, 25, 26, 5, 27, 28, 29, 30, 31, 32, 33, 34, 35, 36, 37, 38, 39, 40, 41, 42, 43, 44, 45, 46, 47, 48, 49, 50, 51, 52, 53, 54, 55, 56, 57, 58, 59, 7, 8, 9, 60, 61, 62, 63, 64, 65, 66, 67, 68, 69, 70, 71, 72, 73, 74, 75, 76, 77, 78, 79, 80, 81, 82, 83, 84, 85, 86, 87, 88, 89] (by decide +kernel) (by decide +kernel)
set_option maxRecDepth 20000 in
theorem gX12_train_X12_finishWith : GoodIn wsX12_train (wsV RX12 170 RX12 yX12_finishWith wsX12_finishWith) := goodIn_app (goodIn_of _ (by decide +kernel)) ggX12_train_X12_finishWith
set_option maxRecDepth 20000 in
theorem ggX12_train_X12_finishOf : GoodIn wsX12_train wsX12_finishOf := goodIn_r _ [37, 38, 39, 40, 5, 41, 42, 43, 44, 28, 29, 30, 45, 46, 47, 48, 49, 50, 51, 52, 53, 54, 55, 56, 57, 58, 59, 7, 8, 9, 60, 61, 62, 63, 64, 65, 66, 67, 68, 31, 32, 33, 69, 70, 71, 72, 73, 74, 75, 76, 77, 78, 79, 80, 81, 82, 83, 84, 85, 86, 87, 88, 89] (by decide +kernel) (by decide +kernel)
set_option maxRecDepth 20000 in
theorem gX12_train_X12_finishOf : GoodIn wsX12_train (wsV RX12 156 RX12 yX12_finishOf wsX12_finishOf) := goodIn_app (goodIn_of _ (by decide +kernel)) ggX12_train_X12_finishOf
set_option maxRecDepth 20000 in
theorem ggX12_weakest_X12_isAthlete : GoodIn wsX12_weakest wsX12_isAthlete := goodIn_r _ [7, 1, 8, 9, 6, 10, 56, 57, 58, 59, 60, 61, 62, 63, 64, 65, 66, 67, 68, 69, 70, 71, 72, 73, 74, 75, 76] (by decide +kernel) (by decide +kernel)
set_option maxRecDepth 20000 in
theorem gX12_weakest_X12_isAthlete : GoodIn wsX12_weakest (wsV RX12 136 RX12 yX12_isAthlete wsX12_isAthlete) := goodIn_app (goodIn_of _ (by decide +kernel)) ggX12_weakest_X12_isAthlete
set_option maxRecDepth 20000 in
theorem ggX12_weakest_X12_no : GoodIn wsX12_weakest wsX12_no := goodIn_r _ [14, 15, 56, 57, 58, 59, 60, 61, 62, 63, 64, 65, 66, 67, 68, 69, 70, 71, 72, 73, 74, 75, 76] (by decide +kernel) (by decide +kernel)
set_option maxRecDepth 20000 in
theorem gX12_weakest_X12_no : GoodIn wsX12_weakest (wsV RX12 56 RX12 yX12_no wsX12_no) := goodIn_app (goodIn_of _ (by decide +kernel)) ggX12_weakest_X12_no
set_option maxRecDepth 20000 in
theorem ggX12_weakest_X12_finishOf : GoodIn wsX12_weakest wsX12_finishOf := goodIn_r _ [19, 20, 21, 22, 6, 23, 2, 24, 25, 26, 27, 28, 29, 30, 31, 32, 33, 34, 35, 36, 37, 38, 39, 40, 41, 42, 43, 8, 9, 10, 44, 45, 46, 47, 48, 49, 50, 51, 52, 53, 54, 55, 56, 57, 58, 59, 60, 61, 62, 63, 64, 65, 66, 67, 68, 69, 70, 71, 72, 73, 74, 75, 76] (by decide +kernel) (by decide +kernel)
set_option maxRecDepth 20000 in
theorem gX12_weakest_X12_finishOf : GoodIn wsX12_weakest (wsV RX12 156 RX12 yX12_finishOf wsX12_finishOf) := goodIn_app (goodIn_of _ (by decide +kernel)) ggX12_weakest_X12_finishOf
set_option maxRecDepth 20000 in
theorem ggX12_weakest_X12_of : GoodIn wsX12_weakest wsX12_of := goodIn_r _ [40] (by decide +kernel) (by decide +kernel)
set_option maxRecDepth 20000 in
theorem gX12_weakest_X12_of : GoodIn wsX12_weakest (va_wsS RX12 66 yX12_of wsX12_of) := goodIn_app (goodIn_of _ (by decide +kernel)) ggX12_weakest_X12_of
set_option maxRecDepth 20000 in
theorem ggX12_meadow_X12_isAthlete : GoodIn wsX12_meadow wsX12_isAthlete := goodIn_r _ [7, 1, 8, 9, 6, 10, 64, 65, 66, 67, 68, 69, 70, 71, 72, 73, 74, 75, 76, 77, 78, 79, 80, 81, 82, 83, 84] (by decide +kernel) (by decide +kernel)
set_option maxRecDepth 20000 in
theorem gX12_meadow_X12_isAthlete : GoodIn wsX12_meadow (wsV RX12 136 RX12 yX12_isAthlete wsX12_isAthlete) := goodIn_app (goodIn_of _ (by decide +kernel)) ggX12_meadow_X12_isAthlete
set_option maxRecDepth 20000 in
theorem ggX12_meadow_X12_no : GoodIn wsX12_meadow wsX12_no := goodIn_r _ [14, 15, 64, 65, 66, 67, 68, 69, 70, 71, 72, 73, 74, 75, 76, 77, 78, 79, 80, 81, 82, 83, 84] (by decide +kernel) (by decide +kernel)
set_option maxRecDepth 20000 in
theorem gX12_meadow_X12_no : GoodIn wsX12_meadow (wsV RX12 56 RX12 yX12_no wsX12_no) := goodIn_app (goodIn_of _ (by decide +kernel)) ggX12_meadow_X12_no
set_option maxRecDepth 20000 in
theorem ggX12_meadow_X12_isIn : GoodIn wsX12_meadow wsX12_isIn := goodIn_r _ [10] (by decide +kernel) (by decide +kernel)
set_option maxRecDepth 20000 in
theorem gX12_meadow_X12_isIn : GoodIn wsX12_meadow (va_wsS RX12 62 yX12_isIn wsX12_isIn) := goodIn_app (goodIn_of _ (by decide +kernel)) ggX12_meadow_X12_isIn
set_option maxRecDepth 20000 in
theorem ggX12_meadow_X12_finishOf : GoodIn wsX12_meadow wsX12_finishOf := goodIn_r _ [19, 20, 21, 22, 6, 23, 2, 24, 25, 26, 27, 28, 29, 30, 31, 32, 33, 34, 35, 36, 37, 38, 39, 40, 41, 42, 43, 8, 9, 10, 44, 45, 46, 47, 48, 49, 50, 51, 52, 53, 54, 55, 64, 65, 66, 67, 68, 69, 70, 71, 72, 73, 74, 75, 76, 77, 78, 79, 80, 81, 82, 83, 84] (by decide +kernel) (by decide +kernel)
set_option maxRecDepth 20000 in
theorem gX12_meadow_X12_finishOf : GoodIn wsX12_meadow (wsV RX12 156 RX12 yX12_finishOf wsX12_finishOf) := goodIn_app (goodIn_of _ (by decide +kernel)) ggX12_meadow_X12_finishOf
set_option maxRecDepth 20000 in
theorem ggX12_meadow_X12_of : GoodIn wsX12_meadow wsX12_of := goodIn_r _ [40] (by decide +kernel) (by decide +kernel)
set_option maxRecDepth 20000 in
theorem gX12_meadow_X12_of : GoodIn wsX12_meadow (va_wsS RX12 66 yX12_of wsX12_of) := goodIn_app (goodIn_of _ (by decide +kernel)) ggX12_meadow_X12_of
set_option maxRecDepth 20000 in
theorem ggX12_meadow_X12_finishWith : GoodIn wsX12_meadow wsX12_finishWith := goodIn_r _ [59, 1, 60, 61, 62, 6, 63, 26, 27, 28, 53, 54, 55, 16, 17, 18, 19, 20, 21, 22, 23, 2, 24, 25, 29, 30, 31, 32, 33, 34, 35, 36, 37, 38, 39, 40, 41, 42, 43, 8, 9, 10, 44, 45, 46, 47, 48, 49, 50, 51, 52, 64, 65, 66, 67, 68, 69, 70, 71, 72, 73, 74, 75, 76, 77, 78, 79, 80, 81, 82, 83, 84] (by decide +kernel) (by decide +kernel)
set_option maxRecDepth 20000 in
theorem gX12_meadow_X12_finishWith : GoodIn wsX12_meadow (wsV RX12 170 RX12 yX12_finishWith wsX12_finishWith) := goodIn_app (goodIn_of _ (by decide +kernel)) ggX12_meadow_X12_finishWith
set_option maxRecDepth 20000 in
theorem ggX12_leave_X12_isAthlete : GoodIn wsX12_leave wsX12_isAthlete := goodIn_r _ [8, 2, 9, 10, 7, 11, 61, 62, 63, 64, 65, 66, 67, 68, 69, 70, 71, 72, 73, 74, 75, 76, 77, 78, 79, 80, 81] (by decide +kernel) (by decide +kernel)
set_option maxRecDepth 20000 in
theorem gX12_leave_X12_isAthlete : GoodIn wsX12_leave (wsV RX12 136 RX12 yX12_isAthlete wsX12_isAthlete) := goodIn_app (goodIn_of _ (by decide +kernel)) ggX12_leave_X12_isAthlete
set_option maxRecDepth 20000 in
theorem ggX12_leave_X12_no : GoodIn wsX12_leave wsX12_no := goodIn_r _ [15, 16, 61, 62, 63, 64, 65, 66, 67, 68, 69, 70, 71, 72, 73, 74, 75, 76, 77, 78, 79, 80, 81] (by decide +kernel) (by decide +kernel)
set_option maxRecDepth 20000 in
theorem gX12_leave_X12_no : GoodIn wsX12_leave (wsV RX12 56 RX12 yX12_no wsX12_no) := goodIn_app (goodIn_of _ (by decide +kernel)) ggX12_leave_X12_no
set_option maxRecDepth 20000 in
theorem ggX12_leave_X12_isIn : GoodIn wsX12_leave wsX12_isIn := goodIn_r _ [11] (by decide +kernel) (by decide +kernel)
set_option maxRecDepth 20000 in
theorem gX12_leave_X12_isIn : GoodIn wsX12_leave (va_wsS RX12 62 yX12_isIn wsX12_isIn) := goodIn_app (goodIn_of _ (by decide +kernel)) ggX12_leave_X12_isIn
set_option maxRecDepth 20000 in
theorem ggX12_leave_X12_lays : GoodIn wsX12_leave wsX12_lays := goodIn_r _ [19] (by decide +kernel) (by decide +kernel)
set_option maxRecDepth 20000 in
theorem gX12_leave_X12_lays : GoodIn wsX12_leave (va_wsS RX12 149 yX12_lays wsX12_lays) := goodIn_app (goodIn_of _ (by decide +kernel)) ggX12_leave_X12_lays
set_option maxRecDepth 20000 in
theorem ggX12_leave_X12_of : GoodIn wsX12_leave wsX12_of := goodIn_r _ [22] (by decide +kernel) (by decide +kernel)
set_option maxRecDepth 20000 in
theorem gX12_leave_X12_of : GoodIn wsX12_leave (va_wsS RX12 66 yX12_of wsX12_of) := goodIn_app (goodIn_of _ (by decide +kernel)) ggX12_leave_X12_of
set_option maxRecDepth 20000 in
theorem ggX12_leave_X12_tried : GoodIn wsX12_leave wsX12_tried := goodIn_r _ [25] (by decide +kernel) (by decide +kernel)
set_option maxRecDepth 20000 in
theorem gX12_leave_X12_tried : GoodIn wsX12_leave (va_wsS RX12 91 yX12_tried wsX12_tried) := goodIn_app (goodIn_of _ (by decide +kernel)) ggX12_leave_X12_tried
set_option maxRecDepth 20000 in
theorem ggX12_leave_X12_finishOf : GoodIn wsX12_leave wsX12_finishOf := goodIn_r _ [29, 30, 31, 32, 7, 33, 34, 35, 36, 37, 38, 39, 23, 24, 25, 40, 41, 42, 43, 44, 45, 20, 21, 22, 46, 47, 48, 9, 10, 11, 49, 50, 51, 52, 53, 54, 55, 56, 57, 58, 59, 60, 61, 62, 63, 64, 65, 66, 67, 68, 69, 70, 71, 72, 73, 74, 75, 76, 77, 78, 79, 80, 81] (by decide +kernel) (by decide +kernel)
set_option maxRecDepth 20000 in
theorem gX12_leave_X12_finishOf : GoodIn wsX12_leave (wsV RX12 156 RX12 yX12_finishOf wsX12_finishOf) := goodIn_app (goodIn_of _ (by decide +kernel)) ggX12_leave_X12_finishOf
set_option maxRecDepth 20000 in
theorem ggX12_order_X12_isAthlete : GoodIn wsX12_order wsX12_isAthlete := goodIn_r _ [7, 1, 8, 9, 6, 10, 64, 65, 66, 67, 68, 69, 70, 71, 72, 73, 74, 75, 76, 77, 78, 79, 80, 81, 82, 83, 84] (by decide +kernel) (by decide +kernel)
set_option maxRecDepth 20000 in
theorem gX12_order_X12_isAthlete : GoodIn wsX12_order (wsV RX12 136 RX12 yX12_isAthlete wsX12_isAthlete) := goodIn_app (goodIn_of _ (by decide +kernel)) ggX12_order_X12_isAthlete
set_option maxRecDepth 20000 in
theorem ggX12_order_X12_no : GoodIn wsX12_order wsX12_no := goodIn_r _ [14, 15, 64, 65, 66, 67, 68, 69, 70, 71, 72, 73, 74, 75, 76, 77, 78, 79, 80, 81, 82, 83, 84] (by decide +kernel) (by decide +kernel)
set_option maxRecDepth 20000 in
theorem gX12_order_X12_no : GoodIn wsX12_order (wsV RX12 56 RX12 yX12_no wsX12_no) := goodIn_app (goodIn_of _ (by decide +kernel)) ggX12_order_X12_no
set_option maxRecDepth 20000 in
theorem ggX12_order_X12_finishOf : GoodIn wsX12_order wsX12_finishOf := goodIn_r _ [19, 20, 21, 22, 6, 23, 24, 25, 26, 27, 28, 29, 30, 31, 32, 33, 34, 35, 36, 37, 38, 39, 40, 41, 42, 43, 44, 8, 9, 10, 45, 46, 47, 48, 49, 50, 51, 52, 53, 54, 55, 56, 64, 65, 66, 67, 68, 69, 70, 71, 72, 73, 74, 75, 76, 77, 78, 79, 80, 81, 82, 83, 84] (by decide +kernel) (by decide +kernel)
set_option maxRecDepth 20000 in
theorem gX12_order_X12_finishOf : GoodIn wsX12_order (wsV RX12 156 RX12 yX12_finishOf wsX12_finishOf) := goodIn_app (goodIn_of _ (by decide +kernel)) ggX12_order_X12_finishOf
set_option maxRecDepth 20000 in
theorem ggX12_order_X12_lays : GoodIn wsX12_order wsX12_lays := goodIn_r _ [59] (by decide +kernel) (by decide +kernel)
set_option maxRecDepth 20000 in
theorem gX12_order_X12_lays : GoodIn wsX12_order (va_wsS RX12 149 yX12_lays wsX12_lays) := goodIn_app (goodIn_of _ (by decide +kernel)) ggX12_order_X12_lays
set_option maxRecDepth 20000 in
theorem ggX12_order_X12_changes : GoodIn wsX12_order wsX12_changes := goodIn_r _ [63, 39, 40, 6, 41] (by decide +kernel) (by decide +kernel)
set_option maxRecDepth 20000 in
theorem gX12_order_X12_changes : GoodIn wsX12_order (wsV RX12 142 RX12 yX12_changes wsX12_changes) := goodIn_app (goodIn_of _ (by decide +kernel)) ggX12_order_X12_changes
set_option maxRecDepth 20000 in
theorem ggX12_ridesMany_X12_isRide : GoodIn wsX12_ridesMany wsX12_isRide := goodIn_r _ [5, 6, 7, 4, 8, 9, 10, 11] (by decide +kernel) (by decide +kernel)
set_option maxRecDepth 20000 in
theorem gX12_ridesMany_X12_isRide : GoodIn wsX12_ridesMany (va_wsS RX12 73 yX12_isRide wsX12_isRide) := goodIn_app (goodIn_of _ (by decide +kernel)) ggX12_ridesMany_X12_isRide
set_option maxRecDepth 20000 in
theorem ggX12_partOf_X12_gcd : GoodIn wsX12_partOf wsX12_gcd := goodIn_r _ [4] (by decide +kernel) (by decide +kernel)
set_option maxRecDepth 20000 in
theorem gX12_partOf_X12_gcd : GoodIn wsX12_partOf (va_wsS RX12 174 yX12_gcd wsX12_gcd) := goodIn_app (goodIn_of _ (by decide +kernel)) ggX12_partOf_X12_gcd
set_option maxRecDepth 20000 in
theorem ggX12_puncture_X12_isAthlete : GoodIn wsX12_puncture wsX12_isAthlete := goodIn_r _ [6, 1, 7, 8, 5, 9, 71, 72, 73, 74, 75, 76, 77, 78, 79, 80, 81, 82, 83, 84, 85, 86, 87, 88, 89, 90, 91] (by decide +kernel) (by decide +kernel)
set_option maxRecDepth 20000 in
theorem gX12_puncture_X12_isAthlete : GoodIn wsX12_puncture (wsV RX12 136 RX12 yX12_isAthlete wsX12_isAthlete) := goodIn_app (goodIn_of _ (by decide +kernel)) ggX12_puncture_X12_isAthlete
set_option maxRecDepth 20000 in
theorem ggX12_puncture_X12_noWide : GoodIn wsX12_puncture wsX12_noWide := goodIn_r _ [13, 14, 15, 16, 17, 5, 18, 19, 71, 72, 73, 74, 75, 76, 77, 78, 79, 80, 81, 82, 83, 84, 85, 86, 87, 88, 89, 90, 91] (by decide +kernel) (by decide +kernel)
set_option maxRecDepth 20000 in
theorem gX12_puncture_X12_noWide : GoodIn wsX12_puncture (wsV RX12 178 RX12 yX12_noWide wsX12_noWide) := goodIn_app (goodIn_of _ (by decide +kernel)) ggX12_puncture_X12_noWide
set_option maxRecDepth 20000 in
theorem ggX12_puncture_X12_isIn : GoodIn wsX12_puncture wsX12_isIn := goodIn_r _ [9] (by decide +kernel) (by decide +kernel)
set_option maxRecDepth 20000 in
theorem gX12_puncture_X12_isIn : GoodIn wsX12_puncture (va_wsS RX12 62 yX12_isIn wsX12_isIn) := goodIn_app (goodIn_of _ (by decide +kernel)) ggX12_puncture_X12_isIn
set_option maxRecDepth 20000 in
theorem ggX12_puncture_X12_finishOf : GoodIn wsX12_puncture wsX12_finishOf := goodIn_r _ [23, 24, 25, 26, 5, 27, 28, 29, 30, 31, 32, 33, 34, 35, 36, 37, 38, 39, 40, 41, 42, 43, 44, 45, 46, 47, 48, 7, 8, 9, 49, 50, 51, 52, 53, 54, 55, 56, 57, 58, 59, 60, 71, 72, 73, 74, 75, 76, 77, 78, 79, 80, 81, 82, 83, 84, 85, 86, 87, 88, 89, 90, 91] (by decide +kernel) (by decide +kernel)
set_option maxRecDepth 20000 in
theorem gX12_puncture_X12_finishOf : GoodIn wsX12_puncture (wsV RX12 156 RX12 yX12_finishOf wsX12_finishOf) := goodIn_app (goodIn_of _ (by decide +kernel)) ggX12_puncture_X12_finishOf
set_option maxRecDepth 20000 in
theorem ggX12_puncture_X12_ridesMany : GoodIn wsX12_puncture wsX12_ridesMany := goodIn_r _ [64, 1, 46, 47, 5, 48, 43, 44, 45, 7, 8, 9, 71, 72, 73, 74, 75, 76, 77, 78, 79, 80, 81, 82, 83, 84, 85, 86, 87, 88, 89, 90, 91] (by decide +kernel) (by decide +kernel)
set_option maxRecDepth 20000 in
theorem gX12_puncture_X12_ridesMany : GoodIn wsX12_puncture (wsV RX12 182 RX12 yX12_ridesMany wsX12_ridesMany) := goodIn_app (goodIn_of _ (by decide +kernel)) ggX12_puncture_X12_ridesMany
set_option maxRecDepth 20000 in
theorem ggX12_puncture_X12_partOf : GoodIn wsX12_puncture wsX12_partOf := goodIn_r _ [67, 68, 69, 5, 70] (by decide +kernel) (by decide +kernel)
set_option maxRecDepth 20000 in
theorem gX12_puncture_X12_partOf : GoodIn wsX12_puncture (va_wsS RX12 185 yX12_partOf wsX12_partOf) := goodIn_app (goodIn_of _ (by decide +kernel)) ggX12_puncture_X12_partOf
set_option maxRecDepth 20000 in
theorem ggX12_mean_X12_isAthlete : GoodIn wsX12_mean wsX12_isAthlete := goodIn_r _ [6, 1, 7, 8, 5, 9, 71, 72, 73, 74, 75, 76, 77, 78, 79, 80, 81, 82, 83, 84, 85, 86, 87, 88, 89, 90, 91] (by decide +kernel) (by decide +kernel)
set_option maxRecDepth 20000 in
theorem gX12_mean_X12_isAthlete : GoodIn wsX12_mean (wsV RX12 136 RX12 yX12_isAthlete wsX12_isAthlete) := goodIn_app (goodIn_of _ (by decide +kernel)) ggX12_mean_X12_isAthlete
set_option maxRecDepth 20000 in
theorem ggX12_mean_X12_noWide : GoodIn wsX12_mean wsX12_noWide := goodIn_r _ [13, 14, 15, 16, 17, 5, 18, 19, 71, 72, 73, 74, 75, 76, 77, 78, 79, 80, 81, 82, 83, 84, 85, 86, 87, 88, 89, 90, 91] (by decide +kernel) (by decide +kernel)
set_option maxRecDepth 20000 in
theorem gX12_mean_X12_noWide : GoodIn wsX12_mean (wsV RX12 178 RX12 yX12_noWide wsX12_noWide) := goodIn_app (goodIn_of _ (by decide +kernel)) ggX12_mean_X12_noWide
set_option maxRecDepth 20000 in
theorem ggX12_mean_X12_isIn : GoodIn wsX12_mean wsX12_isIn := goodIn_r _ [9] (by decide +kernel) (by decide +kernel)
set_option maxRecDepth 20000 in
theorem gX12_mean_X12_isIn : GoodIn wsX12_mean (va_wsS RX12 62 yX12_isIn wsX12_isIn) := goodIn_app (goodIn_of _ (by decide +kernel)) ggX12_mean_X12_isIn
set_option maxRecDepth 20000 in
theorem ggX12_mean_X12_finishOf : GoodIn wsX12_mean wsX12_finishOf := goodIn_r _ [23, 24, 25, 26, 5, 27, 28, 29, 30, 31, 32, 33, 34, 35, 36, 37, 38, 39, 40, 41, 42, 43, 44, 45, 46, 47, 48, 7, 8, 9, 49, 50, 51, 52, 53, 54, 55, 56, 57, 58, 59, 60, 71, 72, 73, 74, 75, 76, 77, 78, 79, 80, 81, 82, 83, 84, 85, 86, 87, 88, 89, 90, 91] (by decide +kernel) (by decide +kernel)
set_option maxRecDepth 20000 in
theorem gX12_mean_X12_finishOf : GoodIn wsX12_mean (wsV RX12 156 RX12 yX12_finishOf wsX12_finishOf) := goodIn_app (goodIn_of _ (by decide +kernel)) ggX12_mean_X12_finishOf
set_option maxRecDepth 20000 in
theorem ggX12_mean_X12_ridesMany : GoodIn wsX12_mean wsX12_ridesMany := goodIn_r _ [64, 1, 46, 47, 5, 48, 43, 44, 45, 7, 8, 9, 71, 72, 73, 74, 75, 76, 77, 78, 79, 80, 81, 82, 83, 84, 85, 86, 87, 88, 89, 90, 91] (by decide +kernel) (by decide +kernel)
set_option maxRecDepth 20000 in
theorem gX12_mean_X12_ridesMany : GoodIn wsX12_mean (wsV RX12 182 RX12 yX12_ridesMany wsX12_ridesMany) := goodIn_app (goodIn_of _ (by decide +kernel)) ggX12_mean_X12_ridesMany
set_option maxRecDepth 20000 in
theorem ggX12_mean_X12_partOf : GoodIn wsX12_mean wsX12_partOf := goodIn_r _ [67, 68, 69, 5, 70] (by decide +kernel) (by decide +kernel)
set_option maxRecDepth 20000 in
theorem gX12_mean_X12_partOf : GoodIn wsX12_mean (va_wsS RX12 185 yX12_partOf wsX12_partOf) := goodIn_app (goodIn_of _ (by decide +kernel)) ggX12_mean_X12_partOf
set_option maxRecDepth 20000 in
theorem ggX12_tube_X12_isAthlete : GoodIn wsX12_tube wsX12_isAthlete := goodIn_r _ [5, 6, 7, 8, 4, 9, 25, 26, 27, 28, 29, 30, 31, 32, 33, 34, 35, 36, 37, 38, 39, 40, 41, 42, 43, 44, 45] (by decide +kernel) (by decide +kernel)
set_option maxRecDepth 20000 in
theorem gX12_tube_X12_isAthlete : GoodIn wsX12_tube (wsV RX12 136 RX12 yX12_isAthlete wsX12_isAthlete) := goodIn_app (goodIn_of _ (by decide +kernel)) ggX12_tube_X12_isAthlete
set_option maxRecDepth 20000 in
theorem ggX12_tube_X12_no : GoodIn wsX12_tube wsX12_no := goodIn_r _ [13, 14, 25, 26, 27, 28, 29, 30, 31, 32, 33, 34, 35, 36, 37, 38, 39, 40, 41, 42, 43, 44, 45] (by decide +kernel) (by decide +kernel)
set_option maxRecDepth 20000 in
theorem gX12_tube_X12_no : GoodIn wsX12_tube (wsV RX12 56 RX12 yX12_no wsX12_no) := goodIn_app (goodIn_of _ (by decide +kernel)) ggX12_tube_X12_no
set_option maxRecDepth 20000 in
theorem ggX12_tube_X12_ridesMany : GoodIn wsX12_tube wsX12_ridesMany := goodIn_r _ [18, 6, 19, 20, 4, 21, 22, 23, 24, 7, 8, 9, 25, 26, 27, 28, 29, 30, 31, 32, 33, 34, 35, 36, 37, 38, 39, 40, 41, 42, 43, 44, 45] (by decide +kernel) (by decide +kernel)
set_option maxRecDepth 20000 in
theorem gX12_tube_X12_ridesMany : GoodIn wsX12_tube (wsV RX12 182 RX12 yX12_ridesMany wsX12_ridesMany) := goodIn_app (goodIn_of _ (by decide +kernel)) ggX12_tube_X12_ridesMany
set_option maxRecDepth 20000 in
theorem ggX12_draw_X12_isAthlete : GoodIn wsX12_draw wsX12_isAthlete := goodIn_r _ [7, 1, 8, 9, 6, 10, 57, 58, 59, 60, 61, 62, 63, 64, 65, 66, 67, 68, 69, 70, 71, 72, 73, 74, 75, 76, 77] (by decide +kernel) (by decide +kernel)
set_option maxRecDepth 20000 in
theorem gX12_draw_X12_isAthlete : GoodIn wsX12_draw (wsV RX12 136 RX12 yX12_isAthlete wsX12_isAthlete) := goodIn_app (goodIn_of _ (by decide +kernel)) ggX12_draw_X12_isAthlete
set_option maxRecDepth 20000 in
theorem ggX12_draw_X12_no : GoodIn wsX12_draw wsX12_no := goodIn_r _ [14, 15, 57, 58, 59, 60, 61, 62, 63, 64, 65, 66, 67, 68, 69, 70, 71, 72, 73, 74, 75, 76, 77] (by decide +kernel) (by decide +kernel)
set_option maxRecDepth 20000 in
theorem gX12_draw_X12_no : GoodIn wsX12_draw (wsV RX12 56 RX12 yX12_no wsX12_no) := goodIn_app (goodIn_of _ (by decide +kernel)) ggX12_draw_X12_no
set_option maxRecDepth 20000 in
theorem ggX12_draw_X12_isIn : GoodIn wsX12_draw wsX12_isIn := goodIn_r _ [10] (by decide +kernel) (by decide +kernel)
set_option maxRecDepth 20000 in
theorem gX12_draw_X12_isIn : GoodIn wsX12_draw (va_wsS RX12 62 yX12_isIn wsX12_isIn) := goodIn_app (goodIn_of _ (by decide +kernel)) ggX12_draw_X12_isIn
set_option maxRecDepth 20000 in
theorem ggX12_draw_X12_finishOf : GoodIn wsX12_draw wsX12_finishOf := goodIn_r _ [19, 20, 21, 22, 6, 23, 24, 25, 26, 27, 28, 29, 30, 31, 32, 33, 34, 35, 36, 37, 38, 39, 40, 41, 42, 43, 44, 8, 9, 10, 45, 46, 47, 48, 49, 50, 51, 52, 53, 54, 55, 56, 57, 58, 59, 60, 61, 62, 63, 64, 65, 66, 67, 68, 69, 70, 71, 72, 73, 74, 75, 76, 77] (by decide +kernel) (by decide +kernel)
set_option maxRecDepth 20000 in
theorem gX12_draw_X12_finishOf : GoodIn wsX12_draw (wsV RX12 156 RX12 yX12_finishOf wsX12_finishOf) := goodIn_app (goodIn_of _ (by decide +kernel)) ggX12_draw_X12_finishOf
set_option maxRecDepth 20000 in
theorem ggX12_finishAgainst_X12_lays : GoodIn wsX12_finishAgainst wsX12_lays := goodIn_r _ [6] (by decide +kernel) (by decide +kernel)
set_option maxRecDepth 20000 in
theorem gX12_finishAgainst_X12_lays : GoodIn wsX12_finishAgainst (va_wsS RX12 149 yX12_lays wsX12_lays) := goodIn_app (goodIn_of _ (by decide +kernel)) ggX12_finishAgainst_X12_lays
set_option maxRecDepth 20000 in
theorem ggX12_finishAgainst_X12_tried : GoodIn wsX12_finishAgainst wsX12_tried := goodIn_r _ [9] (by decide +kernel) (by decide +kernel)
set_option maxRecDepth 20000 in
theorem gX12_finishAgainst_X12_tried : GoodIn wsX12_finishAgainst (va_wsS RX12 91 yX12_tried wsX12_tried) := goodIn_app (goodIn_of _ (by decide +kernel)) ggX12_finishAgainst_X12_tried
set_option maxRecDepth 20000 in
theorem ggX12_finishAgainst_X12_finishOf : GoodIn wsX12_finishAgainst wsX12_finishOf := goodIn_r _ [13, 14, 15, 16, 5, 17, 18, 19, 20, 21, 22, 23, 7, 8, 9, 24, 25, 26, 27, 28, 29, 30, 31, 32, 33, 34, 35, 36, 37, 38, 39, 40, 41, 42, 43, 44, 45, 46, 47, 48, 49, 50, 51, 52, 53, 54, 55, 56, 57, 58, 59, 60, 61, 62, 63, 64, 65, 66, 67, 68, 69, 70, 71] (by decide +kernel) (by decide +kernel)
set_option maxRecDepth 20000 in
theorem gX12_finishAgainst_X12_finishOf : GoodIn wsX12_finishAgainst (wsV RX12 156 RX12 yX12_finishOf wsX12_finishOf) := goodIn_app (goodIn_of _ (by decide +kernel)) ggX12_finishAgainst_X12_finishOf
set_option maxRecDepth 20000 in
theorem ggX12_two_X12_isAthlete : GoodIn wsX12_two wsX12_isAthlete := goodIn_r _ [5, 6, 7, 8, 4, 9, 68, 69, 70, 71, 72, 73, 74, 75, 76, 77, 78, 79, 80, 81, 82, 83, 84, 85, 86, 87, 88] (by decide +kernel) (by decide +kernel)
set_option maxRecDepth 20000 in
theorem gX12_two_X12_isAthlete : GoodIn wsX12_two (wsV RX12 136 RX12 yX12_isAthlete wsX12_isAthlete) := goodIn_app (goodIn_of _ (by decide +kernel)) ggX12_two_X12_isAthlete
set_option maxRecDepth 20000 in
theorem ggX12_two_X12_isSection : GoodIn wsX12_two wsX12_isSection := goodIn_r _ [13, 6, 7, 8, 4, 9, 68, 69, 70, 71, 72, 73, 74, 75, 76, 77, 78, 79, 80, 81, 82, 83, 84, 85, 86, 87, 88] (by decide +kernel) (by decide +kernel)
set_option maxRecDepth 20000 in
theorem gX12_two_X12_isSection : GoodIn wsX12_two (wsV RX12 139 RX12 yX12_isSection wsX12_isSection) := goodIn_app (goodIn_of _ (by decide +kernel)) ggX12_two_X12_isSection
set_option maxRecDepth 20000 in
theorem ggX12_two_X12_no : GoodIn wsX12_two wsX12_no := goodIn_r _ [17, 18, 68, 69, 70, 71, 72, 73, 74, 75, 76, 77, 78, 79, 80, 81, 82, 83, 84, 85, 86, 87, 88] (by decide +kernel) (by decide +kernel)
set_option maxRecDepth 20000 in
theorem gX12_two_X12_no : GoodIn wsX12_two (wsV RX12 56 RX12 yX12_no wsX12_no) := goodIn_app (goodIn_of _ (by decide +kernel)) ggX12_two_X12_no
set_option maxRecDepth 20000 in
theorem ggX12_two_X12_finishAgainst : GoodIn wsX12_two wsX12_finishAgainst := goodIn_r _ [22, 6, 23, 24, 25, 4, 26, 27, 28, 29, 30, 31, 32, 33, 34, 35, 36, 37, 38, 39, 40, 41, 42, 43, 44, 45, 46, 47, 48, 49, 50, 51, 52, 53, 54, 55, 7, 8, 9, 56, 57, 58, 59, 60, 61, 62, 63, 64, 65, 66, 67, 68, 69, 70, 71, 72, 73, 74, 75, 76, 77, 78, 79, 80, 81, 82, 83, 84, 85, 86, 87, 88] (by decide +kernel) (by decide +kernel)
set_option maxRecDepth 20000 in
theorem gX12_two_X12_finishAgainst : GoodIn wsX12_two (wsV RX12 189 RX12 yX12_finishAgainst wsX12_finishAgainst) := goodIn_app (goodIn_of _ (by decide +kernel)) ggX12_two_X12_finishAgainst
set_option maxRecDepth 20000 in
theorem ggX12_whatWas_X12_isSection : GoodIn wsX12_whatWas wsX12_isSection := goodIn_r _ [10, 2, 11, 12, 9, 13, 62, 63, 64, 65, 66, 67, 68, 69, 70, 71, 72, 73, 74, 75, 76, 77, 78, 79, 80, 81, 82] (by decide +kernel) (by decide +kernel)
set_option maxRecDepth 20000 in
theorem gX12_whatWas_X12_isSection : GoodIn wsX12_whatWas (wsV RX12 139 RX12 yX12_isSection wsX12_isSection) := goodIn_app (goodIn_of _ (by decide +kernel)) ggX12_whatWas_X12_isSection
set_option maxRecDepth 20000 in
theorem ggX12_whatWas_X12_no : GoodIn wsX12_whatWas wsX12_no := goodIn_r _ [17, 18, 62, 63, 64, 65, 66, 67, 68, 69, 70, 71, 72, 73, 74, 75, 76, 77, 78, 79, 80, 81, 82] (by decide +kernel) (by decide +kernel)
set_option maxRecDepth 20000 in
theorem gX12_whatWas_X12_no : GoodIn wsX12_whatWas (wsV RX12 56 RX12 yX12_no wsX12_no) := goodIn_app (goodIn_of _ (by decide +kernel)) ggX12_whatWas_X12_no
set_option maxRecDepth 20000 in
theorem ggX12_whatWas_X12_isIn : GoodIn wsX12_whatWas wsX12_isIn := goodIn_r _ [13] (by decide +kernel) (by decide +kernel)
set_option maxRecDepth 20000 in
theorem gX12_whatWas_X12_isIn : GoodIn wsX12_whatWas (va_wsS RX12 62 yX12_isIn wsX12_isIn) := goodIn_app (goodIn_of _ (by decide +kernel)) ggX12_whatWas_X12_isIn
set_option maxRecDepth 20000 in
theorem ggX12_whatWas_X12_lays : GoodIn wsX12_whatWas wsX12_lays := goodIn_r _ [21] (by decide +kernel) (by decide +kernel)
set_option maxRecDepth 20000 in
theorem gX12_whatWas_X12_lays : GoodIn wsX12_whatWas (va_wsS RX12 149 yX12_lays wsX12_lays) := goodIn_app (goodIn_of _ (by decide +kernel)) ggX12_whatWas_X12_lays
set_option maxRecDepth 20000 in
theorem ggX12_whatWas_X12_of : GoodIn wsX12_whatWas wsX12_of := goodIn_r _ [24] (by decide +kernel) (by decide +kernel)
set_option maxRecDepth 20000 in
theorem gX12_whatWas_X12_of : GoodIn wsX12_whatWas (va_wsS RX12 66 yX12_of wsX12_of) := goodIn_app (goodIn_of _ (by decide +kernel)) ggX12_whatWas_X12_of
set_option maxRecDepth 20000 in
theorem ggX12_whatWas_X12_finishOf : GoodIn wsX12_whatWas wsX12_finishOf := goodIn_r _ [28, 29, 30, 31, 9, 32, 4, 33, 34, 35, 36, 37, 38, 39, 40, 41, 42, 43, 44, 45, 46, 22, 23, 24, 47, 48, 49, 11, 12, 13, 50, 51, 52, 53, 54, 55, 56, 57, 58, 59, 60, 61, 62, 63, 64, 65, 66, 67, 68, 69, 70, 71, 72, 73, 74, 75, 76, 77, 78, 79, 80, 81, 82] (by decide +kernel) (by decide +kernel)
set_option maxRecDepth 20000 in
theorem gX12_whatWas_X12_finishOf : GoodIn wsX12_whatWas (wsV RX12 156 RX12 yX12_finishOf wsX12_finishOf) := goodIn_app (goodIn_of _ (by decide +kernel)) ggX12_whatWas_X12_finishOf
set_option maxRecDepth 20000 in
theorem ggX12_whatWas_X12_least : GoodIn wsX12_whatWas wsX12_least := goodIn_r _ [61] (by decide +kernel) (by decide +kernel)
set_option maxRecDepth 20000 in
theorem gX12_whatWas_X12_least : GoodIn wsX12_whatWas (va_wsS RX12 88 yX12_least wsX12_least) := goodIn_app (goodIn_of _ (by decide +kernel)) ggX12_whatWas_X12_least
set_option maxRecDepth 20000 in
theorem ggX12_row_X12_no : GoodIn wsX12_row wsX12_no := goodIn_r _ [7, 8, 9, 10, 11, 12, 13, 14, 15, 16, 17, 18, 19, 20, 21, 22, 23, 24, 25, 26, 27, 28, 29] (by decide +kernel) (by decide +kernel)
set_option maxRecDepth 20000 in
theorem gX12_row_X12_no : GoodIn wsX12_row (wsV RX12 56 RX12 yX12_no wsX12_no) := goodIn_app (goodIn_of _ (by decide +kernel)) ggX12_row_X12_no
set_option maxRecDepth 20000 in
theorem ggX12_judge_X12_isAthlete : GoodIn wsX12_judge wsX12_isAthlete := goodIn_r _ [9, 2, 10, 11, 8, 12, 58, 59, 60, 61, 62, 63, 64, 65, 66, 67, 68, 69, 70, 71, 72, 73, 74, 75, 76, 77, 78] (by decide +kernel) (by decide +kernel)
set_option maxRecDepth 20000 in
theorem gX12_judge_X12_isAthlete : GoodIn wsX12_judge (wsV RX12 136 RX12 yX12_isAthlete wsX12_isAthlete) := goodIn_app (goodIn_of _ (by decide +kernel)) ggX12_judge_X12_isAthlete
set_option maxRecDepth 20000 in
theorem ggX12_judge_X12_no : GoodIn wsX12_judge wsX12_no := goodIn_r _ [16, 17, 58, 59, 60, 61, 62, 63, 64, 65, 66, 67, 68, 69, 70, 71, 72, 73, 74, 75, 76, 77, 78] (by decide +kernel) (by decide +kernel)
set_option maxRecDepth 20000 in
theorem gX12_judge_X12_no : GoodIn wsX12_judge (wsV RX12 56 RX12 yX12_no wsX12_no) := goodIn_app (goodIn_of _ (by decide +kernel)) ggX12_judge_X12_no
set_option maxRecDepth 20000 in
theorem ggX12_judge_X12_finishOf : GoodIn wsX12_judge wsX12_finishOf := goodIn_r _ [21, 22, 23, 24, 8, 25, 26, 3, 27, 28, 29, 30, 31, 32, 33, 34, 35, 36, 37, 38, 39, 40, 41, 42, 43, 44, 45, 10, 11, 12, 46, 47, 48, 49, 50, 51, 52, 53, 54, 55, 56, 57, 58, 59, 60, 61, 62, 63, 64, 65, 66, 67, 68, 69, 70, 71, 72, 73, 74, 75, 76, 77, 78] (by decide +kernel) (by decide +kernel)
set_option maxRecDepth 20000 in
theorem gX12_judge_X12_finishOf : GoodIn wsX12_judge (wsV RX12 156 RX12 yX12_finishOf wsX12_finishOf) := goodIn_app (goodIn_of _ (by decide +kernel)) ggX12_judge_X12_finishOf
set_option maxRecDepth 20000 in
theorem ggX12_lots_X12_no : GoodIn wsX12_lots wsX12_no := goodIn_r _ [8, 9, 64, 65, 66, 67, 68, 69, 70, 71, 72, 73, 74, 75, 76, 77, 78, 79, 80, 81, 82, 83, 84] (by decide +kernel) (by decide +kernel)
set_option maxRecDepth 20000 in
theorem gX12_lots_X12_no : GoodIn wsX12_lots (wsV RX12 56 RX12 yX12_no wsX12_no) := goodIn_app (goodIn_of _ (by decide +kernel)) ggX12_lots_X12_no
set_option maxRecDepth 20000 in
theorem ggX12_lots_X12_isIn : GoodIn wsX12_lots wsX12_isIn := goodIn_r _ [12] (by decide +kernel) (by decide +kernel)
set_option maxRecDepth 20000 in
theorem gX12_lots_X12_isIn : GoodIn wsX12_lots (va_wsS RX12 62 yX12_isIn wsX12_isIn) := goodIn_app (goodIn_of _ (by decide +kernel)) ggX12_lots_X12_isIn
set_option maxRecDepth 20000 in
theorem ggX12_lots_X12_lays : GoodIn wsX12_lots wsX12_lays := goodIn_r _ [15] (by decide +kernel) (by decide +kernel)
set_option maxRecDepth 20000 in
theorem gX12_lots_X12_lays : GoodIn wsX12_lots (va_wsS RX12 149 yX12_lays wsX12_lays) := goodIn_app (goodIn_of _ (by decide +kernel)) ggX12_lots_X12_lays
set_option maxRecDepth 20000 in
theorem ggX12_lots_X12_tried : GoodIn wsX12_lots wsX12_tried := goodIn_r _ [18] (by decide +kernel) (by decide +kernel)
set_option maxRecDepth 20000 in
theorem gX12_lots_X12_tried : GoodIn wsX12_lots (va_wsS RX12 91 yX12_tried wsX12_tried) := goodIn_app (goodIn_of _ (by decide +kernel)) ggX12_lots_X12_tried
set_option maxRecDepth 20000 in
theorem ggX12_lots_X12_drawn : GoodIn wsX12_lots wsX12_drawn := goodIn_r _ [22, 2, 23, 24, 25, 64, 65, 66, 67, 68, 69, 70, 71, 72, 73, 74, 75, 76, 77, 78, 79, 80, 81, 82, 83, 84] (by decide +kernel) (by decide +kernel)
set_option maxRecDepth 20000 in
theorem gX12_lots_X12_drawn : GoodIn wsX12_lots (wsV RX12 201 RX12 yX12_drawn wsX12_drawn) := goodIn_app (goodIn_of _ (by decide +kernel)) ggX12_lots_X12_drawn
set_option maxRecDepth 20000 in
theorem ggX12_lots_X12_finishOf : GoodIn wsX12_lots wsX12_finishOf := goodIn_r _ [29, 30, 31, 32, 7, 33, 34, 35, 36, 37, 38, 39, 16, 17, 18, 40, 41, 42, 43, 44, 45, 46, 47, 48, 49, 50, 51, 10, 11, 12, 52, 53, 54, 55, 56, 57, 58, 59, 60, 61, 62, 63, 64, 65, 66, 67, 68, 69, 70, 71, 72, 73, 74, 75, 76, 77, 78, 79, 80, 81, 82, 83, 84] (by decide +kernel) (by decide +kernel)
set_option maxRecDepth 20000 in
theorem gX12_lots_X12_finishOf : GoodIn wsX12_lots (wsV RX12 156 RX12 yX12_finishOf wsX12_finishOf) := goodIn_app (goodIn_of _ (by decide +kernel)) ggX12_lots_X12_finishOf
set_option maxRecDepth 20000 in
theorem ggX12_image_X12_lays : GoodIn wsX12_image wsX12_lays := goodIn_r _ [7] (by decide +kernel) (by decide +kernel)
set_option maxRecDepth 20000 in
theorem gX12_image_X12_lays : GoodIn wsX12_image (va_wsS RX12 149 yX12_lays wsX12_lays) := goodIn_app (goodIn_of _ (by decide +kernel)) ggX12_image_X12_lays
set_option maxRecDepth 20000 in
theorem ggX12_on_X12_no : GoodIn wsX12_on wsX12_no := goodIn_r _ [8, 9, 13, 14, 15, 16, 17, 18, 19, 20, 21, 22, 23, 24, 25, 26, 27, 28, 29, 30, 31, 32, 33] (by decide +kernel) (by decide +kernel)
set_option maxRecDepth 20000 in
theorem gX12_on_X12_no : GoodIn wsX12_on (wsV RX12 56 RX12 yX12_no wsX12_no) := goodIn_app (goodIn_of _ (by decide +kernel)) ggX12_on_X12_no
set_option maxRecDepth 20000 in
theorem ggX12_on_X12_lays : GoodIn wsX12_on wsX12_lays := goodIn_r _ [12] (by decide +kernel) (by decide +kernel)
set_option maxRecDepth 20000 in
theorem gX12_on_X12_lays : GoodIn wsX12_on (va_wsS RX12 149 yX12_lays wsX12_lays) := goodIn_app (goodIn_of _ (by decide +kernel)) ggX12_on_X12_lays
set_option maxRecDepth 20000 in
theorem ggX12_count_X12_isIn : GoodIn wsX12_count wsX12_isIn := goodIn_r _ [8] (by decide +kernel) (by decide +kernel)
set_option maxRecDepth 20000 in
theorem gX12_count_X12_isIn : GoodIn wsX12_count (va_wsS RX12 62 yX12_isIn wsX12_isIn) := goodIn_app (goodIn_of _ (by decide +kernel)) ggX12_count_X12_isIn
set_option maxRecDepth 20000 in
theorem ggX12_count_X12_of : GoodIn wsX12_count wsX12_of := goodIn_r _ [11] (by decide +kernel) (by decide +kernel)
set_option maxRecDepth 20000 in
theorem gX12_count_X12_of : GoodIn wsX12_count (va_wsS RX12 66 yX12_of wsX12_of) := goodIn_app (goodIn_of _ (by decide +kernel)) ggX12_count_X12_of
set_option maxRecDepth 20000 in
theorem ggX12_count_X12_ridesMany : GoodIn wsX12_count wsX12_ridesMany := goodIn_r _ [15, 2, 16, 17, 7, 18, 9, 10, 11, 5, 6, 8, 22, 23, 24, 25, 26, 27, 28, 29, 30, 31, 32, 33, 34, 35, 36, 37, 38, 39, 40, 41, 42] (by decide +kernel) (by decide +kernel)
set_option maxRecDepth 20000 in
theorem gX12_count_X12_ridesMany : GoodIn wsX12_count (wsV RX12 182 RX12 yX12_ridesMany wsX12_ridesMany) := goodIn_app (goodIn_of _ (by decide +kernel)) ggX12_count_X12_ridesMany
set_option maxRecDepth 20000 in
theorem ggX12_count_X12_tried : GoodIn wsX12_count wsX12_tried := goodIn_r _ [21] (by decide +kernel) (by decide +kernel)
set_option maxRecDepth 20000 in
theorem gX12_count_X12_tried : GoodIn wsX12_count (va_wsS RX12 91 yX12_tried wsX12_tried) := goodIn_app (goodIn_of _ (by decide +kernel)) ggX12_count_X12_tried
abbrev vwCl : List vw_C := [(RX0, TX0, 2), (RX1, TX1, 4), (RX2, TX2, 2), (RX3, TX3, 3), (RX5, TX5, 2), (RX7, TX7, 8), (RX8, TX8, 2), (RX9, TX9, 2), (RX10, TX10, 6), (RX11, TX11, 11), (RX12, TX12, 21)]
/-! ===== END printed: names (the pool rows behind it are left out: they stand on a word that rows may not hold) ===== -/
