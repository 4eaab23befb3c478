-- a row of two rows of cars: 'multianewarray' of two dimensions, 2 and k
section TMN
variable {E : CtlPost} {e : Env} {d : Bool} {acts : List Action} {s : State}
/-- an array's cell, all of one value -/
abbrev tw_rep (c : ClassId) (n : Nat) (v : Value) : Cell := { cls := c, slots := Array.replicate n v, vm := .none }
theorem tw_mk {c comp : ClassId} {k : Class} {ty : FieldType} {n : Nat} (hk : s.vm.classes[c]? = some k) (hkind : k.kind = .array comp ty) (href : ty.isReference = true) (hl : ¬ n > e.platform.arrayLengthLimit) (hh : ¬ n * componentBytes ty > e.platform.maxHeapBytes)
    (h1 : s.heap.size < e.platform.maxCells) (h2 : s.slotsUsed + n ≤ e.platform.maxSlots) {Q : Addr → Pre} (hq : Q s.heap.size d acts (s.pushCell (tw_rep c n .null))) : wp (Jvm.newArray c n .null) Q E e d acts s := by
  have hf : fits ty .null = true := by cases ty <;> first | rfl | (simp [FieldType.isReference] at href)
  have ha : allocActs (Array.replicate n Value.null) s.heap.size acts = acts := by
    unfold allocActs
    rw [if_pos]
    rw [Array.all_replicate]
    split <;> rfl
  simp only [Jvm.newArray, Jvm.arrayFits, wp_bind', W.ask, W.ite, hl, if_false, wp_pure', W.theClass, hk, hkind, hh, W.alloc, W.stop, Option.some.injEq, exists_eq_left', Array.size_replicate, ha]
  rw [if_neg (by omega)]
  refine ⟨h1, h2, fun i v hv => ?_, hq⟩
  rw [Array.getElem?_replicate] at hv
  split at hv
  · cases hv
    simp [State.fitsSlot, State.slotType?, hk, hkind, hf]
  · cases hv
end TMN
section TMW
variable {p : Program} {l : Launch} {e : Env} {R : Room} {s : State} {m : MethodId} {args : Array Value} {below : List Frame} {meth : Method} {c : Code} {H : Heap} {locs : List Loc} {cells slots : Nat} {Q : State → Prop}
variable {cc : ByteArray} {pc : Nat} {ls : Array Slot} {rest : List Value} {D : va_G} {cl : List vw_C} {A : Nat → Prop} {tys : List (ClassId × FieldType)} {ws : va_W} {H0 : Heap}
/-- the outer row's cell, when both inner rows are there -/
abbrev tw_o0 (cA : ClassId) : Cell := tw_rep cA 2 .null
abbrev tw_o1 (cA : ClassId) (h : Nat) : Cell := (tw_o0 cA).setSlot 0 (.ref (h + 1))
abbrev tw_o2 (cA : ClassId) (h : Nat) : Cell := (tw_o1 cA h).setSlot 1 (.ref (h + 2))
theorem tw_o2_eq (cA : ClassId) (h : Nat) : tw_o2 cA h = vp_cell cA (2, .inr (.inr (.inr (.inr (tw_two (h + 1) (h + 2)))))) := by
  simp [tw_o2, tw_o1, tw_o0, tw_rep, Cell.setSlot, vp_cell, arrV, tw_two, va_rf, Array.ofFn, Array.replicate]
  rfl
theorem tw_rep_eq (c : ClassId) (n : Nat) : tw_rep c n .null = vp_cell c (n, .inr (.inr (.inr (.inr (fun _ => none))))) := by
  show ({ cls := c, slots := Array.replicate n .null, vm := .none } : Cell) = { cls := c, slots := Array.ofFn (n := n) fun _ => va_rf none, vm := .none }
  congr 1
  apply Array.ext
  · simp
  · intro i h1 h2
    simp [va_rf]
def tw_m5 (T : State) (vm₁ : Vm) (cA comp : ClassId) : State :=
  ((((((T.setVm vm₁).pushCell (tw_o0 cA)).pushCell (tw_rep comp 24 .null)).setCell T.heap.size (tw_o1 cA T.heap.size)).pushCell (tw_rep comp 24 .null)).setCell T.heap.size (tw_o2 cA T.heap.size))
theorem tw_h5 {α : Type} (H : Array α) (a b a1 a2 : α) : (((((H.push a).push b).setIfInBounds H.size a1).push b).setIfInBounds H.size a2).size = H.size + 3 ∧ (((((H.push a).push b).setIfInBounds H.size a1).push b).setIfInBounds H.size a2)[H.size]? = some a2 ∧ (((((H.push a).push b).setIfInBounds H.size a1).push b).setIfInBounds H.size a2)[H.size + 1]? = some b ∧ (((((H.push a).push b).setIfInBounds H.size a1).push b).setIfInBounds H.size a2)[H.size + 2]? = some b ∧ (∀ q, q < H.size → (((((H.push a).push b).setIfInBounds H.size a1).push b).setIfInBounds H.size a2)[q]? = H[q]?) ∧ (((H.push a).push b).setIfInBounds H.size a1).push b = (((H.push a).push b).setIfInBounds H.size a1).push b := by
  have key : ∀ q, (((((H.push a).push b).setIfInBounds H.size a1).push b).setIfInBounds H.size a2)[q]? = if q = H.size then some a2 else if q = H.size + 2 then some b else if q = H.size + 1 then some b else H[q]? := by
    intro q
    rw [Array.getElem?_setIfInBounds, Array.getElem?_push, Array.getElem?_setIfInBounds, Array.getElem?_push, Array.getElem?_push]
    simp only [Array.size_push, Array.size_setIfInBounds]
    by_cases h0 : q = H.size
    · subst h0
      simp
    · have h0' : ¬ H.size = q := fun h => h0 h.symm
      simp only [h0, h0', if_false]
  refine ⟨by simp, ?_, ?_, ?_, fun q hq => ?_, rfl⟩
  · rw [key, if_pos rfl]
  · rw [key, if_neg (by omega), if_neg (by omega), if_pos rfl]
  · rw [key, if_neg (by omega), if_pos rfl]
  · rw [key, if_neg (by omega), if_neg (by omega), if_neg (by omega)]
theorem tw_m5_heap (T : State) (vm₁ : Vm) (cA comp : ClassId) : (tw_m5 T vm₁ cA comp).heap.size = T.heap.size + 3 ∧ (tw_m5 T vm₁ cA comp).heap[T.heap.size]? = some (tw_o2 cA T.heap.size) ∧ (tw_m5 T vm₁ cA comp).heap[T.heap.size + 1]? = some (tw_rep comp 24 .null) ∧ (tw_m5 T vm₁ cA comp).heap[T.heap.size + 2]? = some (tw_rep comp 24 .null) ∧ ∀ q, q < T.heap.size → (tw_m5 T vm₁ cA comp).heap[q]? = T.heap[q]? := by
  obtain ⟨h1, h2, h3, h4, h5, -⟩ := tw_h5 T.heap (tw_o0 cA) (tw_rep comp 24 .null) (tw_o1 cA T.heap.size) (tw_o2 cA T.heap.size)
  exact ⟨h1, h2, h3, h4, h5⟩
end TMW
section TMX
variable {p : Program} {l : Launch} {e : Env} {R : Room} {s : State} {m : MethodId} {args : Array Value} {below : List Frame} {meth : Method} {c : Code} {H : Heap} {locs : List Loc} {cells slots : Nat} {Q : State → Prop}
variable {cc : ByteArray} {pc : Nat} {ls : Array Slot} {rest : List Value} {D : va_G} {cl : List vw_C} {A : Nat → Prop} {tys : List (ClassId × FieldType)} {ws : va_W} {H0 : Heap}
theorem tw_m5_stand {T : State} (X : Stand p l e R s m args below meth c T locs cells slots) {vm₁ : Vm} (hW : s.WarmedH vm₁) (cA comp : ClassId) : Stand p l e R s m args below meth c (tw_m5 T vm₁ cA comp) ((locs ++ [⟨T.heap.size, 0⟩]) ++ [⟨T.heap.size, 1⟩]) (cells + 1 + 1 + 1) (slots + 2 + 24 + 24) := by
  have X1 := (X.noted hW).pushed (tw_o0 cA)
  have X2 := X1.pushed (tw_rep comp 24 .null)
  have c2 : (((T.setVm vm₁).pushCell (tw_o0 cA)).pushCell (tw_rep comp 24 .null)).heap[T.heap.size]? = some (tw_o0 cA) := by
    show ((T.heap.push (tw_o0 cA)).push (tw_rep comp 24 .null))[T.heap.size]? = _
    rw [Array.getElem?_push, if_neg (by rw [Array.size_push]; omega), Array.getElem?_push, if_pos rfl]
  have X3 := X2.stored c2 0 (.ref (T.heap.size + 1))
  have X4 := X3.pushed (tw_rep comp 24 .null)
  have c4 : (((((T.setVm vm₁).pushCell (tw_o0 cA)).pushCell (tw_rep comp 24 .null)).setCell T.heap.size (tw_o1 cA T.heap.size)).pushCell (tw_rep comp 24 .null)).heap[T.heap.size]? = some (tw_o1 cA T.heap.size) := by
    show (((((T.heap.push (tw_o0 cA)).push (tw_rep comp 24 .null)).setIfInBounds T.heap.size (tw_o1 cA T.heap.size))).push (tw_rep comp 24 .null))[T.heap.size]? = _
    rw [Array.getElem?_push, if_neg (by rw [Array.size_setIfInBounds, Array.size_push, Array.size_push]; omega), Array.getElem?_setIfInBounds, if_pos rfl, if_pos (by rw [Array.size_push, Array.size_push]; omega)]
  have X5 := X4.stored c4 1 (.ref (T.heap.size + 2))
  simpa using X5
end TMX
section TMY
variable {E : CtlPost} {e : Env} {d : Bool} {acts : List Action} {s : State}
theorem tw_make1 {c comp : ClassId} {k : Class} {ty : FieldType} (hk : s.vm.classes[c]? = some k) (hkind : k.kind = .array comp ty) (href : ty.isReference = true) (hdv : defaultValue ty = .null) (hl : ¬ 24 > e.platform.arrayLengthLimit) (hh : ¬ 24 * componentBytes ty > e.platform.maxHeapBytes)
    (h1 : s.heap.size < e.platform.maxCells) (h2 : s.slotsUsed + 24 ≤ e.platform.maxSlots) {Q : Addr → Pre} (hq : Q s.heap.size d acts (s.pushCell (tw_rep c 24 .null))) : wp (multianewarray.make c [24]) Q E e d acts s := by
  rw [multianewarray.make]
  have hn : ¬ (24 : Int32) < 0 := by decide
  have hc : (24 : Int32).toNatClampNeg = 24 := by decide
  simp only [wp_bind', W.ite, hn, if_false, wp_pure', W.theClass, hk, hkind, Option.some.injEq, exists_eq_left', hc, hdv]
  exact tw_mk hk hkind href hl hh h1 h2 hq
end TMY
