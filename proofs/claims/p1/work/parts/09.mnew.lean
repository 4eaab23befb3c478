-- a row of two rows of cars: 'multianewarray' of two dimensions, 2 and k
section TMN
variable {E : CtlPost} {e : Env} {d : Bool} {acts : List Action} {s : State}
/-- an array's cell, all of one value -/
abbrev tw_rep (c : ClassId) (n : Nat) (v : Value) : Cell := { cls := c, slots := Array.replicate n v, vm := .none }
theorem tw_mk {c comp : ClassId} {k : Class} {ty : FieldType} {n : Nat} (hk : s.vm.classes[c]? = some k) (hkind : k.kind = .array comp ty) (href : ty.isReference = true) (hl : ¬ n > e.platform.arrayLengthLimit) (hh : ¬ n * componentBytes ty > e.platform.maxHeapBytes)
    (h1 : s.heap.size < e.platform.maxCells) (h2 : s.slotsUsed + n ≤ e.platform.maxSlots) {Q : Addr → Pre} (hq : Q s.heap.size d acts (s.pushCell (tw_rep c n .null))) : wp (Jvm.newArray c n .null) Q E e d acts s := by
  have hf : fits ty .null = true := by cases ty <;> first | rfl | (simp [FieldType.isReference] at href)
  have ha : allocActs (Array.replicate n Value.null) s.heap.size acts = acts := by
    unfold allocActs
    rw [if_pos]
    rw [Array.all_replicate]
    split <;> rfl
  simp only [Jvm.newArray, Jvm.arrayFits, wp_bind', W.ask, W.ite, hl, if_false, wp_pure', W.theClass, hk, hkind, hh, W.alloc, W.stop, Option.some.injEq, exists_eq_left', Array.size_replicate, ha]
  rw [if_neg (by omega)]
  refine ⟨h1, h2, fun i v hv => ?_, hq⟩
  rw [Array.getElem?_replicate] at hv
  split at hv
  · cases hv
    simp [State.fitsSlot, State.slotType?, hk, hkind, hf]
  · cases hv
end TMN
section TMW
variable {p : Program} {l : Launch} {e : Env} {R : Room} {s : State} {m : MethodId} {args : Array Value} {below : List Frame} {meth : Method} {c : Code} {H : Heap} {locs : List Loc} {cells slots : Nat} {Q : State → Prop}
variable {cc : ByteArray} {pc : Nat} {ls : Array Slot} {rest : List Value} {D : va_G} {cl : List vw_C} {A : Nat → Prop} {tys : List (ClassId × FieldType)} {ws : va_W} {H0 : Heap}
/-- the outer row's cell, when both inner rows are there -/
abbrev tw_o0 (cA : ClassId) : Cell := tw_rep cA 2 .null
abbrev tw_o1 (cA : ClassId) (h : Nat) : Cell := (tw_o0 cA).setSlot 0 (.ref (h + 1))
abbrev tw_o2 (cA : ClassId) (h : Nat) : Cell := (tw_o1 cA h).setSlot 1 (.ref (h + 2))
theorem tw_o2_eq (cA : ClassId) (h : Nat) : tw_o2 cA h = vp_cell cA (2, .inr (.inr (.inr (.inr (tw_two (h + 1) (h + 2)))))) := by
  simp [tw_o2, tw_o1, tw_o0, tw_rep, Cell.setSlot, vp_cell, arrV, tw_two, va_rf, Array.ofFn, Array.replicate]
  rfl
theorem tw_rep_eq (c : ClassId) (n : Nat) : tw_rep c n .null = vp_cell c (n, .inr (.inr (.inr (.inr (fun _ => none))))) := by
  show ({ cls := c, slots := Array.replicate n .null, vm := .none } : Cell) = { cls := c, slots := Array.ofFn (n := n) fun _ => va_rf none, vm := .none }
  congr 1
  apply Array.ext
  · simp
  · intro i h1 h2
    simp [va_rf]
def tw_m5 (T : State) (vm₁ : Vm) (cA comp : ClassId) : State :=
  ((((((T.setVm vm₁).pushCell (tw_o0 cA)).pushCell (tw_rep comp 24 .null)).setCell T.heap.size (tw_o1 cA T.heap.size)).pushCell (tw_rep comp 24 .null)).setCell T.heap.size (tw_o2 cA T.heap.size))
theorem tw_h5 {α : Type} (H : Array α) (a b a1 a2 : α) : (((((H.push a).push b).setIfInBounds H.size a1).push b).setIfInBounds H.size a2).size = H.size + 3 ∧ (((((H.push a).push b).setIfInBounds H.size a1).push b).setIfInBounds H.size a2)[H.size]? = some a2 ∧ (((((H.push a).push b).setIfInBounds H.size a1).push b).setIfInBounds H.size a2)[H.size + 1]? = some b ∧ (((((H.push a).push b).setIfInBounds H.size a1).push b).setIfInBounds H.size a2)[H.size + 2]? = some b ∧ (∀ q, q < H.size → (((((H.push a).push b).setIfInBounds H.size a1).push b).setIfInBounds H.size a2)[q]? = H[q]?) ∧ (((H.push a).push b).setIfInBounds H.size a1).push b = (((H.push a).push b).setIfInBounds H.size a1).push b := by
  have key : ∀ q, (((((H.push a).push b).setIfInBounds H.size a1).push b).setIfInBounds H.size a2)[q]? = if q = H.size then some a2 else if q = H.size + 2 then some b else if q = H.size + 1 then some b else H[q]? := by
    intro q
    rw [Array.getElem?_setIfInBounds, Array.getElem?_push, Array.getElem?_setIfInBounds, Array.getElem?_push, Array.getElem?_push]
    simp only [Array.size_push, Array.size_setIfInBounds]
    by_cases h0 : q = H.size
    · subst h0
      simp
      omega
    · have h0' : ¬ H.size = q := fun h => h0 h.symm
      simp only [h0, h0', if_false]
  refine ⟨by simp, ?_, ?_, ?_, fun q hq => ?_, rfl⟩
  · rw [key, if_pos rfl]
  · rw [key, if_neg (by omega), if_neg (by omega), if_pos rfl]
  · rw [key, if_neg (by omega), if_pos rfl]
  · rw [key, if_neg (by omega), if_neg (by omega), if_neg (by omega)]
theorem tw_m5_heap (T : State) (vm₁ : Vm) (cA comp : ClassId) : (tw_m5 T vm₁ cA comp).heap.size = T.heap.size + 3 ∧ (tw_m5 T vm₁ cA comp).heap[T.heap.size]? = some (tw_o2 cA T.heap.size) ∧ (tw_m5 T vm₁ cA comp).heap[T.heap.size + 1]? = some (tw_rep comp 24 .null) ∧ (tw_m5 T vm₁ cA comp).heap[T.heap.size + 2]? = some (tw_rep comp 24 .null) ∧ ∀ q, q < T.heap.size → (tw_m5 T vm₁ cA comp).heap[q]? = T.heap[q]? := by
  obtain ⟨h1, h2, h3, h4, h5, -⟩ := tw_h5 T.heap (tw_o0 cA) (tw_rep comp 24 .null) (tw_o1 cA T.heap.size) (tw_o2 cA T.heap.size)
  exact ⟨h1, h2, h3, h4, h5⟩
end TMW
section TMX
variable {p : Program} {l : Launch} {e : Env} {R : Room} {s : State} {m : MethodId} {args : Array Value} {below : List Frame} {meth : Method} {c : Code} {H : Heap} {locs : List Loc} {cells slots : Nat} {Q : State → Prop}
variable {cc : ByteArray} {pc : Nat} {ls : Array Slot} {rest : List Value} {D : va_G} {cl : List vw_C} {A : Nat → Prop} {tys : List (ClassId × FieldType)} {ws : va_W} {H0 : Heap}
theorem tw_m5_stand {T : State} (X : Stand p l e R s m args below meth c T locs cells slots) {vm₁ : Vm} (hW : s.WarmedH vm₁) (cA comp : ClassId) : Stand p l e R s m args below meth c (tw_m5 T vm₁ cA comp) ((locs ++ [⟨T.heap.size, 0⟩]) ++ [⟨T.heap.size, 1⟩]) (cells + 1 + 1 + 1) (slots + 2 + 24 + 24) := by
  have X1 := (X.noted hW).pushed (tw_o0 cA)
  have X2 := X1.pushed (tw_rep comp 24 .null)
  have c2 : (((T.setVm vm₁).pushCell (tw_o0 cA)).pushCell (tw_rep comp 24 .null)).heap[T.heap.size]? = some (tw_o0 cA) := by
    show ((T.heap.push (tw_o0 cA)).push (tw_rep comp 24 .null))[T.heap.size]? = _
    rw [Array.getElem?_push, if_neg (by rw [Array.size_push]; omega), Array.getElem?_push, if_pos rfl]
  have X3 := X2.stored c2 0 (.ref (T.heap.size + 1))
  have X4 := X3.pushed (tw_rep comp 24 .null)
  have c4 : (((((T.setVm vm₁).pushCell (tw_o0 cA)).pushCell (tw_rep comp 24 .null)).setCell T.heap.size (tw_o1 cA T.heap.size)).pushCell (tw_rep comp 24 .null)).heap[T.heap.size]? = some (tw_o1 cA T.heap.size) := by
    show (((((T.heap.push (tw_o0 cA)).push (tw_rep comp 24 .null)).setIfInBounds T.heap.size (tw_o1 cA T.heap.size))).push (tw_rep comp 24 .null))[T.heap.size]? = _
    rw [Array.getElem?_push, if_neg (by rw [Array.size_setIfInBounds, Array.size_push, Array.size_push]; omega), Array.getElem?_setIfInBounds, if_pos rfl, if_pos (by rw [Array.size_push, Array.size_push]; omega)]
  have X5 := X4.stored c4 1 (.ref (T.heap.size + 2))
  rw [List.append_assoc]
  rw [List.append_assoc] at X5
  exact X5
end TMX
section TMY
variable {E : CtlPost} {e : Env} {d : Bool} {acts : List Action} {s : State}
theorem tw_make1 {c comp : ClassId} {k : Class} {ty : FieldType} (hk : s.vm.classes[c]? = some k) (hkind : k.kind = .array comp ty) (href : ty.isReference = true) (hdv : defaultValue ty = .null) (hl : ¬ 24 > e.platform.arrayLengthLimit) (hh : ¬ 24 * componentBytes ty > e.platform.maxHeapBytes)
    (h1 : s.heap.size < e.platform.maxCells) (h2 : s.slotsUsed + 24 ≤ e.platform.maxSlots) {Q : Addr → Pre} (hq : Q s.heap.size d acts (s.pushCell (tw_rep c 24 .null))) : wp (multianewarray.make c [24]) Q E e d acts s := by
  rw [multianewarray.make]
  have hn : ¬ (24 : Int32) < 0 := by decide
  have hc : (24 : Int32).toNatClampNeg = 24 := by decide
  simp only [wp_bind', W.ite, hn, if_false, wp_pure', W.theClass, hk, hkind, Option.some.injEq, exists_eq_left', hc, hdv]
  exact tw_mk hk hkind href hl hh h1 h2 hq
end TMY
theorem tw_m6_eq {T : State} {f : JFrame} {vm₁ : Vm} {cA comp : ClassId} : ((((((((T.setVm vm₁).setTop f).pushCell (tw_o0 cA)).pushCell (tw_rep comp 24 .null)).setCell T.heap.size (tw_o1 cA T.heap.size)).pushCell (tw_rep comp 24 .null)).setCell T.heap.size (tw_o2 cA T.heap.size))) = (tw_m5 T vm₁ cA comp).setTop f := by
  simp only [tw_m5, State.pushCell_setTop, State.setCell_setTop]
section TMZ
variable {E : CtlPost} {e : Env} {d : Bool} {acts : List Action} {s : State}
theorem tw_fitR {t : FieldType} (h : t.isReference = true) (a : Addr) : fits t (.ref a) = true := by cases t <;> first | rfl | (simp [FieldType.isReference] at h)
theorem tw_make2 {c comp cc : ClassId} {k kc : Class} {ty : FieldType} (hk : s.vm.classes[c]? = some k) (hkind : k.kind = .array comp (.array ty)) (hkc : s.vm.classes[comp]? = some kc) (hkindc : kc.kind = .array cc ty) (href : ty.isReference = true) (hdv : defaultValue ty = .null)
    (hl1 : ¬ 2 > e.platform.arrayLengthLimit) (hh1 : ¬ 2 * componentBytes (.array ty) > e.platform.maxHeapBytes) (hl : ¬ 24 > e.platform.arrayLengthLimit) (hh : ¬ 24 * componentBytes ty > e.platform.maxHeapBytes)
    (h1 : s.heap.size + 3 ≤ e.platform.maxCells) (h2 : s.slotsUsed + 50 ≤ e.platform.maxSlots) {Q : Addr → Pre}
    (hq : ∀ d' acts', Q s.heap.size d' acts' (((((s.pushCell (tw_o0 c)).pushCell (tw_rep comp 24 .null)).setCell s.heap.size (tw_o1 c s.heap.size)).pushCell (tw_rep comp 24 .null)).setCell s.heap.size (tw_o2 c s.heap.size))) : wp (multianewarray.make c [2, 24]) Q E e d acts s := by
  have hn : ¬ (2 : Int32) < 0 := by decide
  have hc : (2 : Int32).toNatClampNeg = 2 := by decide
  have hfind : (([24] : List Int32).find? (· < 0)) = none := by decide
  rw [multianewarray.make]
  simp only [wp_bind', W.ite, hn, if_false, wp_pure', W.theClass, hk, hkind, Option.some.injEq, exists_eq_left', hc, defaultValue]
  refine tw_mk hk hkind rfl hl1 hh1 (by omega) (by omega) ?_
  simp only [hfind]
  rw [ite_self, wp_bind', Std.Legacy.Range.forIn_eq_forIn_range']
  show wp (forIn [0, 1] PUnit.unit _) _ E e d acts _
  have g0 : ((s.pushCell (tw_o0 c)).pushCell (tw_rep comp 24 .null)).heap[s.heap.size]? = some (tw_o0 c) := by
    rw [State.heap_pushCell_of_lt (h := by simp)]
    exact State.heap_pushCell_size _ _
  rw [List.forIn_cons]
  simp only [wp_bind']
  refine tw_make1 (s := s.pushCell (tw_o0 c)) (ty := ty) hkc hkindc href hdv hl hh (by simp [State.pushCell, State.setCell]; omega) (by simp [State.pushCell, State.setCell, tw_rep]; omega) ?_
  simp only [wp_bind', W.writeLoc, wp_pure']
  refine ⟨tw_o0 c, g0, by simp [tw_rep], by simp [tw_rep], ?_, ?_⟩
  · simp [tw_rep, State.fitsSlot, State.slotType?, hk, hkind, tw_fitR (t := .array ty) rfl]
  have eh1 : (s.pushCell (tw_o0 c)).heap.size = s.heap.size + 1 := by simp [State.pushCell]
  have eh2 : (((s.pushCell (tw_o0 c)).pushCell (tw_rep comp 24 .null)).setCell s.heap.size (tw_o1 c s.heap.size)).heap.size = s.heap.size + 2 := by simp [State.pushCell, State.setCell]
  rw [List.forIn_cons, eh1]
  simp only [wp_bind']
  refine tw_make1 (s := ((s.pushCell (tw_o0 c)).pushCell (tw_rep comp 24 .null)).setCell s.heap.size (tw_o1 c s.heap.size)) (ty := ty) hkc hkindc href hdv hl hh (by simp [State.pushCell, State.setCell]; omega) (by simp [State.pushCell, State.setCell, tw_rep]; omega) ?_
  simp only [wp_bind', W.writeLoc, wp_pure']
  refine ⟨tw_o1 c s.heap.size, ?_, by simp [tw_rep, Cell.setSlot], by simp [tw_rep, Cell.setSlot], ?_, ?_⟩
  · show ((((s.heap.push (tw_o0 c)).push (tw_rep comp 24 .null)).setIfInBounds s.heap.size (tw_o1 c s.heap.size)).push (tw_rep comp 24 .null))[s.heap.size]? = _
    rw [Array.getElem?_push, if_neg (by rw [Array.size_setIfInBounds, Array.size_push, Array.size_push]; omega), Array.getElem?_setIfInBounds, if_pos rfl, if_pos (by rw [Array.size_push, Array.size_push]; omega)]
  · simp [tw_rep, Cell.setSlot, State.fitsSlot, State.slotType?, hk, hkind, tw_fitR (t := .array ty) rfl]
  rw [List.forIn_nil, eh2]
  simp only [wp_pure']
  exact hq _ _
end TMZ
section TMV
variable {p : Program} {l : Launch} {e : Env} {R : Room} {s : State} {m : MethodId} {args : Array Value} {below : List Frame} {meth : Method} {c : Code} {H : Heap} {locs : List Loc} {cells slots : Nat} {Q : State → Prop}
variable {cc : ByteArray} {pc : Nat} {ls : Array Slot} {rest : List Value} {D : va_G} {cl : List vw_C} {A : Nat → Prop} {tys : List (ClassId × FieldType)} {ws : va_W} {H0 : Heap}
theorem tw_mnew (hexec : p.tables.exec = Jvm.exec) (hb : c.code = cc) {own : String} {index : Nat} (hown : s.vm.findClass own = some m.cls) (hclink : (Cond.classLink own index "[[LTowerliftryModel$Car;").before args s = true) (hAA : tw_AA (.object "TowerliftryModel$Car") s) (hAO : va_AO "TowerliftryModel$Car" s) (hK : va_K D cl tys s) (hP : va_P D cl ws H) (hD : va_D A ws) (hS : va_S A H0 H locs) (hA : ∀ q, H0.size ≤ q → A q)
    (hcells : cells + 3 ≤ R.cells) (hslots : slots + 50 ≤ R.slots) (hdg : decode cc pc = .ok (.multianewarray index 2, 4))
    (kk : ∀ (q r0 r1 : Nat) (cP cR : ClassId) (H1 : Heap) (locs1 : List Loc), va_K D cl (tys ++ [(cP, .array (.object "TowerliftryModel$Car")), (cR, .object "TowerliftryModel$Car")]) s → va_P D cl (ws ++ [(q, .inl (cP, 2, .inr (.inr (.inr (.inr (tw_two r0 r1)))))), (r0, .inl (cR, 24, .inr (.inr (.inr (.inr (fun _ => none)))))), (r1, .inl (cR, 24, .inr (.inr (.inr (.inr (fun _ => none))))))]) H1 → va_D A (ws ++ [(q, .inl (cP, 2, .inr (.inr (.inr (.inr (tw_two r0 r1)))))), (r0, .inl (cR, 24, .inr (.inr (.inr (.inr (fun _ => none)))))), (r1, .inl (cR, 24, .inr (.inr (.inr (.inr (fun _ => none))))))]) → va_S A H0 H1 locs1 →
      W p l e R s m args below meth c H1 locs1 (cells + 3) (slots + 50) Q (F0 m (pc + 4) ls (.ref q :: rest))) : W p l e R s m args below meth c H locs cells slots Q (F0 m pc ls (.int 24 :: .int 2 :: rest)) := by
  intro T hT X
  subst hT; subst hb
  have hpl : e.platform.magicAccessors = ({} : Platform).magicAccessors := by rw [X.admits.platform]
  obtain ⟨comp, cA, kA, hcomp, hnameA, hkA, hkindA⟩ := hAA
  obtain ⟨comp2, cR, kC, f1, f2, f3, f4, f5⟩ := Cond.arrayOver_spec (va_AO.use (A := #[]) hAO)
  have ecomp : cR = comp := Option.some.inj (f5.symm.trans hcomp)
  subst ecomp
  obtain ⟨c0, hfc0, hcl⟩ := Cond.classLink_spec hown hclink e.platform hpl
  cases hnameA.symm.trans hfc0
  obtain ⟨hg₁, hwarm₁, hready₁⟩ := State.classEntry (e := e) X.warmed hcl
  generalize T.vm.noted m.cls index (.cls cA) = vm₁ at hg₁ hwarm₁ hready₁
  have hal : s.vm.Alike vm₁ := hwarm₁.alike
  obtain ⟨kA₁, hkA₁, heA⟩ := hal.2.2 _ _ hkA
  obtain ⟨kC₁, hkC₁, heC⟩ := hal.2.2 _ _ f3
  have hkindA₁ : kA₁.kind = .array cR (.array (.object "TowerliftryModel$Car")) := by rw [heA]; exact hkindA
  have hkindC₁ : kC₁.kind = .array comp2 (.object "TowerliftryModel$Car") := by rw [heC]; exact f4
  obtain ⟨hr1, hr2⟩ := X.roomAbove hcells hslots
  have hl1 : ¬ 2 > e.platform.arrayLengthLimit := by rw [Launch.admits_arrayLengthLimit X.admits]; omega
  have hh1 : ¬ 2 * componentBytes (.array (.object "TowerliftryModel$Car")) > e.platform.maxHeapBytes := by
    rw [Launch.admits_maxHeapBytes X.admits]; show ¬ 2 * 4 > 536870912; omega
  have hl2 : ¬ 24 > e.platform.arrayLengthLimit := by rw [Launch.admits_arrayLengthLimit X.admits]; omega
  have hh2 : ¬ 24 * componentBytes (.object "TowerliftryModel$Car") > e.platform.maxHeapBytes := by rw [Launch.admits_maxHeapBytes X.admits]; show ¬ 24 * 4 > 536870912; omega
  have XF := tw_m5_stand X hwarm₁ cA cR
  obtain ⟨z1, z2, z3, z4, z5⟩ := tw_m5_heap T vm₁ cA cR
  have k0 : T.heap.size ∉ ws.map Prod.fst ∧ T.heap.size + 1 ∉ ws.map Prod.fst ∧ T.heap.size + 2 ∉ ws.map Prod.fst := by
    have h : ∀ q ∈ ws.map Prod.fst, q < T.heap.size := fun q hq => by
      obtain ⟨x, hx, rfl⟩ := List.mem_map.mp hq
      obtain ⟨k, hk⟩ := List.getElem?_of_mem hx
      exact (hP k x hk).lt
    exact ⟨fun h9 => absurd (h _ h9) (by omega), fun h9 => absurd (h _ h9) (by omega), fun h9 => absurd (h _ h9) (by omega)⟩
  have P1 : va_P D cl ws (tw_m5 T vm₁ cA cR).heap := hP.kept (fun k x hx => z5 x.1 ((hP k x hx).lt))
  have e0 : (tw_m5 T vm₁ cA cR).heap[T.heap.size]? = some (vp_cell cA (2, .inr (.inr (.inr (.inr (tw_two (T.heap.size + 1) (T.heap.size + 2))))))) := by rw [z2, tw_o2_eq]
  have e1 : (tw_m5 T vm₁ cA cR).heap[T.heap.size + 1]? = some (vp_cell cR (24, .inr (.inr (.inr (.inr (fun _ => none)))))) := by rw [z3, tw_rep_eq]
  have e2 : (tw_m5 T vm₁ cA cR).heap[T.heap.size + 2]? = some (vp_cell cR (24, .inr (.inr (.inr (.inr (fun _ => none)))))) := by rw [z4, tw_rep_eq]
  have P2 : va_P D cl [(T.heap.size, .inl (cA, 2, .inr (.inr (.inr (.inr (tw_two (T.heap.size + 1) (T.heap.size + 2))))))), (T.heap.size + 1, .inl (cR, 24, .inr (.inr (.inr (.inr (fun _ => none)))))), (T.heap.size + 2, .inl (cR, 24, .inr (.inr (.inr (.inr (fun _ => none))))))] (tw_m5 T vm₁ cA cR).heap := by
    intro k x hx
    rcases k with _ | _ | _ | k
    · cases hx; exact e0
    · cases hx; exact e1
    · cases hx; exact e2
    · cases hx
  have hle := hS.1
  have hD1 : va_D A (ws ++ [(T.heap.size, .inl (cA, 2, .inr (.inr (.inr (.inr (tw_two (T.heap.size + 1) (T.heap.size + 2))))))), (T.heap.size + 1, .inl (cR, 24, .inr (.inr (.inr (.inr (fun _ => none)))))), (T.heap.size + 2, .inl (cR, 24, .inr (.inr (.inr (.inr (fun _ => none))))))]) := by
    have hA0 := hA T.heap.size (by omega)
    have hA1 := hA (T.heap.size + 1) (by omega)
    have hA2 := hA (T.heap.size + 2) (by omega)
    have hlt : ∀ (i : Nat) (x : Nat × va_E), ws[i]? = some x → x.1 < T.heap.size := fun i x hx => (hP i x hx).lt
    refine ⟨fun i j x y hi hj hxy => ?_, fun k x hx => ?_⟩
    · by_cases hi1 : i < ws.length
      · rw [List.getElem?_append_left hi1] at hi
        have := hlt i x hi
        by_cases hj1 : j < ws.length
        · rw [List.getElem?_append_left hj1] at hj
          exact hD.1 i j x y hi hj hxy
        · rw [List.getElem?_append_right (by omega)] at hj
          rcases hz : j - ws.length with _ | _ | _ | z
          · rw [hz] at hj; cases hj; omega
          · rw [hz] at hj; cases hj; simp only at hxy; omega
          · rw [hz] at hj; cases hj; simp only at hxy; omega
          · rw [hz] at hj; cases hj
      · rw [List.getElem?_append_right (by omega)] at hi
        by_cases hj1 : j < ws.length
        · rw [List.getElem?_append_left hj1] at hj
          have := hlt j y hj
          rcases hz : i - ws.length with _ | _ | _ | z
          · rw [hz] at hi; cases hi; simp only at hxy; omega
          · rw [hz] at hi; cases hi; simp only at hxy; omega
          · rw [hz] at hi; cases hi; simp only at hxy; omega
          · rw [hz] at hi; cases hi
        · rw [List.getElem?_append_right (by omega)] at hj
          rcases hz : i - ws.length with _ | _ | _ | z <;> rcases hw : j - ws.length with _ | _ | _ | w <;> rw [hz] at hi <;> rw [hw] at hj <;> cases hi <;> cases hj <;> simp only at hxy <;> omega
    · by_cases hl : k < ws.length
      · rw [List.getElem?_append_left hl] at hx
        exact hD.2 k x hx
      · rw [List.getElem?_append_right (by omega)] at hx
        rcases hz : k - ws.length with _ | _ | _ | z
        · rw [hz] at hx; cases hx; exact hA0
        · rw [hz] at hx; cases hx; exact hA1
        · rw [hz] at hx; cases hx; exact hA2
        · rw [hz] at hx; cases hx
  have hK1 : va_K D cl [(cA, .array (.object "TowerliftryModel$Car")), (cR, .object "TowerliftryModel$Car")] s := by
    refine ⟨hK.1, fun k x hx => ?_⟩
    rcases k with _ | _ | k
    · cases hx
      exact ⟨fun N z => ⟨(fun k h => by cases h), kA, hkA, cR, hkindA⟩, hnameA⟩
    · cases hx
      exact ⟨fun N z => ⟨(fun k h => by cases h), kC, f3, comp2, f4⟩, kC, comp2, f3, f4, f1, f5⟩
    · cases hx
  have hS1 : va_S A H0 (tw_m5 T vm₁ cA cR).heap ((locs ++ [⟨T.heap.size, 0⟩]) ++ [⟨T.heap.size, 1⟩]) := by
    refine ⟨by omega, fun x h1 h2 => (z5 x (Nat.lt_of_lt_of_le h1 hS.1)).trans (hS.2.1 x h1 h2), fun x hx => ?_⟩
    have hA0 := hA T.heap.size (by omega)
    simp only [List.mem_append, List.mem_singleton] at hx
    rcases hx with (hx | hx) | hx
    · exact hS.2.2 x hx
    · subst hx; exact hA0
    · subst hx; exact hA0
  obtain ⟨t', a1, b1⟩ := kk T.heap.size (T.heap.size + 1) (T.heap.size + 2) cA cR (tw_m5 T vm₁ cA cR).heap _ (hK.app hK1) (P1.app P2) hD1 hS1 (tw_m5 T vm₁ cA cR) rfl XF
  refine ⟨t', ?_, b1⟩
  jvm_step X.here [hexec, hdg]
  have hg₂ : (resolveClass (F0 m pc ls (.int 24 :: .int 2 :: rest)).method.cls index).Gives e.toSetting T.vm (.ok cA) vm₁ := hg₁
  simp only [multianewarray.sem, wp_bind', W.resolveClassAt_links (State.method?_setTop (F0 m pc ls (.int 24 :: .int 2 :: rest)) X.here.top) hg₂]
  rw [W.popN, if_neg (by decide)]
  refine ⟨_, State.topJava?_setTop' (s := T.setVm vm₁) _ X.here.top, [.int 2, .int 24], rest, rfl, rfl, ?_⟩
  simp only [List.mapM_cons, List.mapM_nil, wp_bind', wp_pure']
  refine tw_make2 (ty := .object "TowerliftryModel$Car") hkA₁ hkindA₁ hkC₁ hkindC₁ rfl rfl hl1 hh1 hl2 hh2 (by show T.heap.size + 3 ≤ _; omega) (by show T.slotsUsed + 50 ≤ _; omega) (fun d' acts' => ?_)
  have eS : ∀ f f' : JFrame, ((T.setTop f).setVm vm₁).setTop f' = (T.setVm vm₁).setTop f' := fun f f' => by
    show ((T.setVm vm₁).setTop f).setTop _ = _
    rw [State.setTop_setTop]
  rw [eS]
  have eH : ∀ f : JFrame, ((T.setVm vm₁).setTop f).heap.size = T.heap.size := fun f => by rw [State.heap_setTop]; rfl
  rw [eH, tw_m6_eq]
  simp only [wp_bind', W.mark, W.pushRef, State.topJava?_setTop' _ XF.here.top, Option.some.injEq, exists_eq_left', State.setTop_setTop, State.heap_setTop]
  intro acts
  simp [jvm, XF.here.top]
  exact a1
end TMV
