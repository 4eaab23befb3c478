-- MY OWN LAYER over the kit's worlds: one shape for every contract of this claim
abbrev tw_T : Type := List (ClassId × FieldType)
abbrev tw_U : Type := va_W × tw_T
/-- what stands behind a method: its cells, and the classes of its new arrays -/
def tw_B (D : va_G) (A : Nat → Prop) (u : tw_U) (t : State) : Prop := va_P D vwCl u.1 t.heap ∧ va_K D vwCl u.2 t ∧ va_D A u.1
def tw_BX (D : va_G) (A : Nat → Prop) (E : String) (u : String × tw_U) (t : State) : Prop := E = u.1 ∧ tw_B D A u.2 t
/-- the names above an exception's class -/
def tw_sup : List String := ["java/lang/RuntimeException", "java/lang/Exception"]
/-- the texts of the exceptions, by their entries -/
def tw_strs : List (Nat × String) := [(39, "the highest floor is out of range"), (50, "there is a car or a person"), (57, "no such shaft or floor"), (59, "the room is odd or out of range"), (72, "the shaft can't take one more car now"), (79, "there are all cars that can be"), (95, "no such dispatcher"), (97, "no such floor, or both are the same"), (99, "a number is out of range"), (101, "there are all persons that can be"), (145, "the ticks are out of range"), (189, "it is not promised"), (212, "the slow ticks are out of range"), (240, "no such thing"), (242, "no such state"), (256, "there are no persons"), (265, "no such floor"), (269, "no such entry"), (272, "no such car"), (274, "no such person")]
def tw_excs : List (Nat × String) := [(41, "java/lang/IllegalArgumentException"), (52, "java/lang/IllegalStateException"), (74, "java/lang/UnsupportedOperationException"), (271, "java/lang/IndexOutOfBoundsException"), (191, "java/util/NoSuchElementException"), (258, "java/lang/ArithmeticException")]
/-- words that the tables alone decide and that no warming changes, but which no list of a method holds -/
def tw_face (w : Cond) : Bool := w.onTables && w.keepsFace
def tw_words : List Cond := (tw_excs.flatMap fun q => (vx_atS RX3 q.1 q.2 tw_sup).filter fun w => !goodWord w) ++ (tw_excs.map fun q => .castable q.2 q.2) ++ [.castable RX0 "java/lang/Object", .castable RX2 "java/lang/Object", .castable RX4 "java/lang/Object", .castable RX5 "java/lang/Object", .declares ⟨"java/util/Iterator", "hasNext", "()Z"⟩, .interfaceMethod "java/util/Iterator" "java/util/Iterator" "hasNext" "()Z", .publicMethod yJx35411_hasNext_aae02, .unhidden RJx35411 "hasNext" "()Z", .castable RJx35411 "java/util/Iterator"]
theorem tw_words_ok : ∀ w ∈ tw_words, tw_face w = true := by decide +kernel
def tw_nfs : List (String × Nat × String × String × String × String) := [("java/util/ArrayList$Itr", 28, "java/util/ArrayList", "size", "I", "java/util/ArrayList"), ("TowerliftryModel$Car", 45, "TowerliftryModel", "top", "I", "TowerliftryModel"), ("TowerliftryModel$Car", 56, "TowerliftryModel", "persons", "Ljava/util/ArrayList;", "TowerliftryModel"), ("TowerliftryModel$Car", 84, "TowerliftryModel", "promises", "[[LTowerliftryModel$Car;", "TowerliftryModel"), ("TowerliftryModel", 136, "TowerliftryModel$Car", "number", "I", "TowerliftryModel"), ("TowerliftryModel", 75, "TowerliftryModel$Car", "shaft", "I", "TowerliftryModel"), ("TowerliftryModel", 223, "TowerliftryModel$Car", "room", "I", "TowerliftryModel"), ("TowerliftryModel", 277, "TowerliftryModel$Car", "begins", "I", "TowerliftryModel"), ("TowerliftryModel", 264, "TowerliftryModel$Car", "other", "LTowerliftryModel$Car;", "TowerliftryModel"), ("TowerliftryModel", 78, "TowerliftryModel$Car", "floor", "I", "TowerliftryModel"), ("TowerliftryModel", 85, "TowerliftryModel$Car", "way", "I", "TowerliftryModel"), ("TowerliftryModel", 230, "TowerliftryModel$Car", "ticks", "I", "TowerliftryModel"), ("TowerliftryModel", 123, "TowerliftryModel$Car", "parked", "I", "TowerliftryModel"), ("TowerliftryModel", 81, "TowerliftryModel$Car", "isOpen", "Z", "TowerliftryModel"), ("TowerliftryModel", 91, "TowerliftryModel$Car", "isOut", "Z", "TowerliftryModel"), ("TowerliftryModel", 113, "TowerliftryModel$Person", "number", "I", "TowerliftryModel"), ("TowerliftryModel$Car", 88, "TowerliftryModel$Person", "to", "I", "TowerliftryModel"), ("TowerliftryModel", 150, "TowerliftryModel$Person", "to", "I", "TowerliftryModel"), ("TowerliftryModel$Car", 81, "TowerliftryModel$Person", "weight", "I", "TowerliftryModel"), ("TowerliftryModel", 220, "TowerliftryModel$Person", "weight", "I", "TowerliftryModel"), ("TowerliftryModel", 182, "TowerliftryModel$Person", "patience", "I", "TowerliftryModel"), ("TowerliftryModel", 137, "TowerliftryModel$Person", "floor", "I", "TowerliftryModel"), ("TowerliftryModel", 138, "TowerliftryModel$Person", "waited", "I", "TowerliftryModel"), ("TowerliftryModel", 110, "TowerliftryModel$Person", "state", "C", "TowerliftryModel"), ("TowerliftryModel$Car", 78, "TowerliftryModel$Person", "car", "LTowerliftryModel$Car;", "TowerliftryModel"), ("TowerliftryModel", 132, "TowerliftryModel$Person", "car", "LTowerliftryModel$Car;", "TowerliftryModel")]
def tw_ncs : List (String × String) := [("java/lang/IllegalArgumentException", "java/lang/IndexOutOfBoundsException"), ("java/lang/IllegalStateException", "java/lang/IllegalArgumentException"), ("java/lang/IllegalStateException", "java/lang/UnsupportedOperationException"), ("java/lang/UnsupportedOperationException", "java/lang/IllegalArgumentException"), ("java/util/NoSuchElementException", "java/lang/IllegalArgumentException")]
/-- 'castable' over an array of a type -/
def tw_AO (ty : FieldType) (U : State) : Prop := ∃ (comp c : ClassId) (k : Class), U.vm.findClass (ty.toString) = some comp ∧ (Cond.arrayOver ty).before #[] U = true ∧ U.vm.classes[c]? = some k
/-- WHAT EVERY METHOD MAY COUNT ON, whatever its cells are -/
def tw_F (em : Nat) (A : Nat → Prop) (U : State) : Prop :=
  vx_Zq Bundle.tN "UNASSIGNED_STACK" Bundle.steD A U U.heap ∧ vx_Zq Bundle.tN "SUPPRESSED_SENTINEL" Bundle.listD A U U.heap ∧ (∀ w ∈ tw_words, va_Nw w U) ∧ (∀ q ∈ tw_strs, ∃ sa, vk_R RX3 q.1 q.2 sa U) ∧
  va_Z "java/util/ArrayList" "DEFAULTCAPACITY_EMPTY_ELEMENTDATA" "[Ljava/lang/Object;" (.ref em) A U U.heap ∧ va_T (.object "java/lang/Object") em 0 (fun _ => .null) A U U.heap ∧ va_Z "java/lang/String" "COMPACT_STRINGS" "Z" (.int 1) A U U.heap ∧ va_AO "java/lang/Object" U ∧
  (∀ q ∈ tw_nfs, va_Nw (.fieldLinkNest q.1 q.2.1 q.2.2.1 q.2.2.2.1 q.2.2.2.2.1 q.2.2.2.2.2) U) ∧ (∀ q ∈ tw_ncs, va_Nc q.1 q.2 U)
theorem tw_warm {w : Cond} {s U : State} (hf : tw_face w = true) (hW : s.WarmedH U.vm) (h : va_Nw w s) : va_Nw w U := by
  simp only [tw_face, Bool.and_eq_true] at hf
  exact va_tabs hf.1 (rfl : (s.setVm U.vm).vm = U.vm) (Cond.before_shiftedFace (State.Shifted.of_warmed hW) w hf.2 h)
theorem tw_F.go {em : Nat} {A A' : Nat → Prop} {s U : State} {H : Heap} {locs : List Loc} (h : tw_F em A s) (hS : va_S A s.heap H locs) (hAA : ∀ q, A' q → A q) (hU : U.heap = H) (hW : s.WarmedH U.vm) : tw_F em A' U := by
  obtain ⟨h1, h2, h3, h4, h5, h6, h7, h8, h9, h10⟩ := h
  subst hU
  have hq : ∀ a : Nat, a < s.heap.size → ¬ A a → U.heap[a]? = s.heap[a]? := hS.2.1
  have hv := hW.alike
  exact ⟨((h1.moved hv).kept hq).narrow hAA, ((h2.moved hv).kept hq).narrow hAA, fun w hw => tw_warm (tw_words_ok w hw) hW (h3 w hw), fun q hq9 => by obtain ⟨sa, h⟩ := h4 q hq9; exact ⟨sa, h.warm hW⟩, ((h5.moved hv).kept hq).narrow hAA, ((h6.moved hv).kept hq).narrow hAA, ((h7.moved hv).kept hq).narrow hAA, h8.moved hv, fun q hq9 => (h9 q hq9).warmF hW, fun q hq9 => (h10 q hq9).moved hv⟩
theorem tw_F.same {em : Nat} {A : Nat → Prop} {s U : State} (h : tw_F em A s) (hh : U.heap = s.heap) (hv : U.vm = s.vm) : tw_F em A U := by
  obtain ⟨h1, h2, h3, h4, h5, h6, h7, h8, h9, h10⟩ := h
  have ha : s.vm.Alike U.vm := by rw [hv]; exact Vm.Alike.refl s.vm
  unfold tw_F
  rw [hh]
  exact ⟨h1.moved ha, h2.moved ha, fun w hw => va_Nw.same (by have := tw_words_ok w hw; simp only [tw_face, Bool.and_eq_true] at this; exact this.1) hv.symm (h3 w hw), fun q hq9 => by obtain ⟨sa, h⟩ := h4 q hq9; exact ⟨sa, vk_R.same hv h⟩, va_Z.moved ha h5, va_T.moved ha h6, va_Z.moved ha h7, h8.moved ha, fun q hq9 => va_Nw.same rfl hv.symm (h9 q hq9), fun q hq9 => (h10 q hq9).moved ha⟩
/-- a method's start: its cells, apart; its array classes; what every method may count on -/
def tw_Pre (em : Nat) (D : va_G) (sz : Nat) (ws : va_W) (ts : tw_T) (U : State) : Prop := U.heap.size = sz ∧ va_P D vwCl ws U.heap ∧ va_K D vwCl ts U ∧ va_D (fun _ => True) ws ∧ tw_F em (va_A ws sz) U
theorem tw_blind {em : Nat} {D : va_G} {sz : Nat} {ws : va_W} {ts : tw_T} {av : List Value} : FrameBlind (va_Pc av (tw_Pre em D sz ws ts)) := by
  intro a U g mk q
  obtain ⟨q0, q1, q2, q3, q4, q5⟩ := q
  exact ⟨q0, q1, q2, va_K.moved (u := U) (U := U.calling g mk a) (Vm.Alike.refl U.vm) q3, q4, q5.same rfl rfl⟩
theorem tw_preS {em : Nat} {D : va_G} {A : Nat → Prop} {s : State} {H : Heap} {locs : List Loc} {wc : va_W} {tc : tw_T} {av : List Value} (hF : tw_F em A s) (hS : va_S A s.heap H locs) (hFc : ∀ q, va_A wc H.size q → A q) (hPc : va_P D vwCl wc H) (hKc : va_K D vwCl tc s) (hDc : va_D A wc) : PreS s H (va_Pc av (tw_Pre em D H.size wc tc)) av :=
  ⟨tw_blind, fun U hU hW => ⟨rfl, by rw [hU], by rw [hU]; exact hPc, va_K.moved hW.alike hKc, hDc.weaken (fun _ _ _ _ => trivial), hF.go hS hFc hU hW⟩⟩
theorem tw_preV {em : Nat} {D : va_G} {A : Nat → Prop} {s : State} {H : Heap} {locs : List Loc} {wc : va_W} {tc : tw_T} {b : Nat} {av : List Value} {C : String} (hF : tw_F em A s) (hS : va_S A s.heap H locs) (hFc : ∀ q, va_A wc H.size q → A q) (hPc : va_P D vwCl wc H) (hKc : va_K D vwCl tc s) (hDc : va_D A wc) (hr : ∃ cell : Cell, H[b]? = some cell ∧ cell.vm.isStatics = false ∧ s.vm.findClass C = some cell.cls) : PreV s H C b (va_Pc (.ref b :: av) (tw_Pre em D H.size wc tc)) av :=
  ⟨tw_blind, hr, fun U hU hW => ⟨rfl, by rw [hU], by rw [hU]; exact hPc, va_K.moved hW.alike hKc, hDc.weaken (fun _ _ _ _ => trivial), hF.go hS hFc hU hW⟩⟩
/-- behind a call: the caller's other cells, and what came back -/
theorem tw_join {D : va_G} {A : Nat → Prop} {s t : State} {ws wc wr : va_W} {tys : tw_T} {u : tw_U} {H H1 : Heap} (hP : va_P D vwCl ws H) (hD : va_D A ws) (hK : va_K D vwCl tys s) (isC isR : List Nat) (hC : isC.map (fun i => ws[i]?) = wc.map some) (hR : isR.map (fun i => ws[i]?) = wr.map some) (hn : va_nd isR = true) (hdis : ∀ i ∈ isR, i ∉ isC)
    (hk : ∀ q : Nat, q < H.size → ¬ va_A wc H.size q → H1[q]? = H[q]?) (hFc : ∀ q, va_A wc H.size q → A q) (ht : t.heap = H1) (hvm : s.vm.Alike t.vm) (hB : tw_B D (va_A wc H.size) u t) : va_P D vwCl (wr ++ u.1) H1 ∧ va_D A (wr ++ u.1) ∧ va_K D vwCl (tys ++ u.2) s := by
  obtain ⟨b1, b2, b3⟩ := hB
  rw [ht] at b1
  obtain ⟨j1, j2⟩ := va_join hP hD isC isR hC hR hn hdis hk hFc b1 b3
  exact ⟨j1, j2, hK.app (va_K.moved hvm.symm b2)⟩
theorem tw_exc {D : va_G} {A : Nat → Prop} {s : State} {ws : va_W} {ts : tw_T} {H : Heap} {locs : List Loc} {cls : String} (hP : va_P D vwCl ws H) (hK : va_K D vwCl ts s) (hD : va_D A ws) (hS : va_S A s.heap H locs) (px : String × tw_U → Prop) (hp : px (cls, (ws, ts))) : ∀ t : State, s.vm.Alike t.vm → H.size ≤ t.heap.size → (∀ q : Nat, q < H.size → t.heap[q]? = H[q]?) → vx_X px (tw_BX D A) A cls s t :=
  fun _ hvm hz hq => ⟨(cls, (ws, ts)), hp, ⟨rfl, hP.kept (fun k q hk => hq q.1 (hP k q hk).lt), va_K.moved hvm hK, hD⟩, ⟨Nat.le_trans hS.1 hz, fun q h1 h2 => (hq q (Nat.lt_of_lt_of_le h1 hS.1)).trans (hS.2.1 q h1 h2)⟩⟩
theorem tw_exc2 {D : va_G} {A : Nat → Prop} {s : State} {ws : va_W} {ts : tw_T} {H : Heap} {locs : List Loc} {cls : String} (hP : va_P D vwCl ws H) (hK : va_K D vwCl ts s) (hD : va_D A ws) (hS : va_S A s.heap H locs) (px : String × tw_U → Prop) (hp : px (cls, (ws, ts))) : ∀ t : State, t.heap = H → s.vm.Alike t.vm → vx_X px (tw_BX D A) A cls s t :=
  fun _ ht hvm => ⟨(cls, (ws, ts)), hp, ⟨rfl, by rw [ht]; exact hP, va_K.moved hvm hK, hD⟩, hS.F ht⟩
theorem tw_str {em : Nat} {A : Nat → Prop} {s : State} (hF : tw_F em A s) {q : Nat × String} (h : q ∈ tw_strs) : ∃ sa, vk_R RX3 q.1 q.2 sa s := hF.2.2.2.1 q h
theorem tw_hat {em : Nat} {A : Nat → Prop} {s : State} {args : Array Value} {L : List Cond} (hF : tw_F em A s) (h1 : ∀ w ∈ L.filter goodWord, w.before args s = true) (h2 : ∀ w ∈ L.filter (fun w => !goodWord w), w ∈ tw_words) : ∀ w ∈ L, w.before args s = true :=
  vx_hat h1 h2 (fun w hw => va_Nw.use (by have := tw_words_ok w hw; simp only [tw_face, Bool.and_eq_true] at this; exact this.1) (hF.2.2.1 w hw))
theorem tw_w {em : Nat} {A : Nat → Prop} {s : State} {args : Array Value} {w : Cond} (hF : tw_F em A s) (h : w ∈ tw_words) : w.before args s = true := va_Nw.use (by have := tw_words_ok w h; simp only [tw_face, Bool.and_eq_true] at this; exact this.1) (hF.2.2.1 w h)
theorem tw_cs {em : Nat} {A : Nat → Prop} {s : State} {args : Array Value} (hF : tw_F em A s) {q : String × String} (h : Cond.castable q.1 q.2 ∈ tw_words) : (Cond.castable q.1 q.2).before args s = true := tw_w hF h
theorem tw_ca {em : Nat} {A : Nat → Prop} {s : State} (hF : tw_F em A s) {q : String × String} (h : Cond.castable q.1 q.2 ∈ tw_words) : va_Nw (.castable q.1 q.2) s := hF.2.2.1 _ h
theorem tw_nc {em : Nat} {A : Nat → Prop} {s : State} (hF : tw_F em A s) {q : String × String} (h : q ∈ tw_ncs) : va_Nc q.1 q.2 s := hF.2.2.2.2.2.2.2.2.2 q h
theorem tw_nf {em : Nat} {A : Nat → Prop} {s : State} {args : Array Value} (hF : tw_F em A s) {q : String × Nat × String × String × String × String} (h : q ∈ tw_nfs) : (Cond.fieldLinkNest q.1 q.2.1 q.2.2.1 q.2.2.2.1 q.2.2.2.2.1 q.2.2.2.2.2).before args s = true := va_Nw.use rfl (hF.2.2.2.2.2.2.2.2.1 q h)
theorem tw_ao {em : Nat} {A : Nat → Prop} {s : State} (hF : tw_F em A s) : va_AO "java/lang/Object" s := hF.2.2.2.2.2.2.2.1
theorem tw_fw {em : Nat} {A : Nat → Prop} {s : State} (hF : tw_F em A s) : va_Fw RJx35411 ⟨"java/util/Iterator", "hasNext", "()Z"⟩ yJx35411_hasNext_aae02 s :=
  va_Fw.of (A := #[]) (tw_w hF (by decide +kernel)) (tw_w hF (by decide +kernel)) (tw_w hF (by decide +kernel)) (tw_w hF (by decide +kernel)) (tw_w hF (by decide +kernel))
theorem tw_upn {k : Nat} : va_up (fun _ => (none : Option Nat)) k none = fun _ => none := by
  funext j
  by_cases h : j = k <;> simp [va_up, h]
