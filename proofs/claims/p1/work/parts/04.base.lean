-- MY OWN LAYER over the kit's worlds: one shape for every contract of this claim
abbrev tw_T : Type := List (ClassId × FieldType)
abbrev tw_U : Type := va_W × tw_T
/-- what stands behind a method: its cells, and the classes of its new arrays -/
def tw_B (D : va_G) (A : Nat → Prop) (u : tw_U) (t : State) : Prop := va_P D vwCl u.1 t.heap ∧ va_K D vwCl u.2 t ∧ va_D A u.1
def tw_BX (D : va_G) (A : Nat → Prop) (E : String) (u : String × tw_U) (t : State) : Prop := E = u.1 ∧ tw_B D A u.2 t
/-- the names above an exception's class -/
def tw_sup : List String := ["java/lang/RuntimeException", "java/lang/Exception"]
/-- the texts of the exceptions, by their entries -/
def tw_strs : List (Nat × String) := [(39, "the highest floor is out of range"), (50, "there is a car or a person"), (57, "no such shaft or floor"), (59, "the room is odd or out of range"), (72, "the shaft can't take one more car now"), (79, "there are all cars that can be"), (95, "no such dispatcher"), (97, "no such floor, or both are the same"), (99, "a number is out of range"), (101, "there are all persons that can be"), (145, "the ticks are out of range"), (189, "it is not promised"), (212, "the slow ticks are out of range"), (240, "no such thing"), (242, "no such state"), (256, "there are no persons"), (265, "no such floor"), (269, "no such entry"), (272, "no such car"), (274, "no such person")]
def tw_excs : List (Nat × String) := [(41, "java/lang/IllegalArgumentException"), (52, "java/lang/IllegalStateException"), (74, "java/lang/UnsupportedOperationException"), (271, "java/lang/IndexOutOfBoundsException"), (191, "java/util/NoSuchElementException"), (258, "java/lang/ArithmeticException")]
/-- words that the tables alone decide and that no warming changes, but which no list of a method holds -/
def tw_face (w : Cond) : Bool := w.onTables && w.keepsFace
def tw_words : List Cond := (tw_excs.flatMap fun q => (vx_atS RX3 q.1 q.2 tw_sup).filter fun w => !goodWord w) ++ (tw_excs.map fun q => .castable q.2 q.2) ++ [.castable RX0 "java/lang/Object", .castable RX2 "java/lang/Object", .castable RX4 "java/lang/Object", .castable RX5 "java/lang/Object", .declares ⟨"java/util/Iterator", "hasNext", "()Z"⟩, .interfaceMethod "java/util/Iterator" "java/util/Iterator" "hasNext" "()Z", .publicMethod yJx35411_hasNext_aae02, .unhidden RJx35411 "hasNext" "()Z", .castable RJx35411 "java/util/Iterator", .classLink RX6 27 "[[LTowerliftryModel$Car;"]
theorem tw_words_ok : ∀ w ∈ tw_words, tw_face w = true := by decide +kernel
def tw_nfs : List (String × Nat × String × String × String × String) := [("java/util/ArrayList$Itr", 28, "java/util/ArrayList", "size", "I", "java/util/ArrayList"), ("TowerliftryModel$Car", 45, "TowerliftryModel", "top", "I", "TowerliftryModel"), ("TowerliftryModel$Car", 56, "TowerliftryModel", "persons", "Ljava/util/ArrayList;", "TowerliftryModel"), ("TowerliftryModel$Car", 84, "TowerliftryModel", "promises", "[[LTowerliftryModel$Car;", "TowerliftryModel"), ("TowerliftryModel", 136, "TowerliftryModel$Car", "number", "I", "TowerliftryModel"), ("TowerliftryModel", 75, "TowerliftryModel$Car", "shaft", "I", "TowerliftryModel"), ("TowerliftryModel", 223, "TowerliftryModel$Car", "room", "I", "TowerliftryModel"), ("TowerliftryModel", 277, "TowerliftryModel$Car", "begins", "I", "TowerliftryModel"), ("TowerliftryModel", 264, "TowerliftryModel$Car", "other", "LTowerliftryModel$Car;", "TowerliftryModel"), ("TowerliftryModel", 78, "TowerliftryModel$Car", "floor", "I", "TowerliftryModel"), ("TowerliftryModel", 85, "TowerliftryModel$Car", "way", "I", "TowerliftryModel"), ("TowerliftryModel", 230, "TowerliftryModel$Car", "ticks", "I", "TowerliftryModel"), ("TowerliftryModel", 123, "TowerliftryModel$Car", "parked", "I", "TowerliftryModel"), ("TowerliftryModel", 81, "TowerliftryModel$Car", "isOpen", "Z", "TowerliftryModel"), ("TowerliftryModel", 91, "TowerliftryModel$Car", "isOut", "Z", "TowerliftryModel"), ("TowerliftryModel", 113, "TowerliftryModel$Person", "number", "I", "TowerliftryModel"), ("TowerliftryModel$Car", 88, "TowerliftryModel$Person", "to", "I", "TowerliftryModel"), ("TowerliftryModel", 150, "TowerliftryModel$Person", "to", "I", "TowerliftryModel"), ("TowerliftryModel$Car", 81, "TowerliftryModel$Person", "weight", "I", "TowerliftryModel"), ("TowerliftryModel", 220, "TowerliftryModel$Person", "weight", "I", "TowerliftryModel"), ("TowerliftryModel", 182, "TowerliftryModel$Person", "patience", "I", "TowerliftryModel"), ("TowerliftryModel", 137, "TowerliftryModel$Person", "floor", "I", "TowerliftryModel"), ("TowerliftryModel", 138, "TowerliftryModel$Person", "waited", "I", "TowerliftryModel"), ("TowerliftryModel", 110, "TowerliftryModel$Person", "state", "C", "TowerliftryModel"), ("TowerliftryModel$Car", 78, "TowerliftryModel$Person", "car", "LTowerliftryModel$Car;", "TowerliftryModel"), ("TowerliftryModel", 132, "TowerliftryModel$Person", "car", "LTowerliftryModel$Car;", "TowerliftryModel")]
def tw_ncs : List (String × String) := [("java/lang/IllegalArgumentException", "java/lang/IndexOutOfBoundsException"), ("java/lang/IllegalStateException", "java/lang/IllegalArgumentException"), ("java/lang/IllegalStateException", "java/lang/UnsupportedOperationException"), ("java/lang/UnsupportedOperationException", "java/lang/IllegalArgumentException"), ("java/util/NoSuchElementException", "java/lang/IllegalArgumentException")]
/-- what the tables say of arrays over the type 'an array of ty' -/
def tw_AA (ty : FieldType) (U : State) : Prop := ∃ (comp c : ClassId) (k : Class), U.vm.findClass (FieldType.array ty).toString = some comp ∧ U.vm.findClass ("[" ++ (FieldType.array ty).toString) = some c ∧ U.vm.classes[c]? = some k ∧ k.kind = .array comp (.array ty)
theorem tw_AA.of {ty : FieldType} {A : Array Value} {U : State} (h : (Cond.arrayOver (.array ty)).before A U = true) : tw_AA ty U := by
  simp only [Cond.before, Cond.holds, Cond.value, beq_iff_eq] at h
  cases hc : U.vm.findClass (FieldType.array ty).toString with
  | none => rw [hc] at h; cases h
  | some comp =>
    rw [hc, Option.bind_some, Option.bind_eq_some_iff] at h
    obtain ⟨c, hi, h2⟩ := h
    rw [Option.map_eq_some_iff] at h2
    obtain ⟨k, hk, hb⟩ := h2
    have hp := (Array.findIdx?_eq_some_iff_getElem.mp hi).2.1
    rw [(Array.getElem?_eq_some_iff.mp hk).2] at hp
    cases hkind : k.kind with
    | array component t =>
      rw [hkind] at hb hp
      simp only [Bool.and_eq_true, decide_eq_true_eq] at hb
      simp only [beq_iff_eq] at hp
      exact ⟨comp, c, k, hc, hb.2, hk, by rw [hkind, hp, hb.1]⟩
    | _ => rw [hkind] at hb; simp at hb
theorem tw_AA.moved {ty : FieldType} {u U : State} (hvm : u.vm.Alike U.vm) (h : tw_AA ty u) : tw_AA ty U := by
  obtain ⟨comp, c, k, h1, h2, h3, h4⟩ := h
  obtain ⟨k', hk', he⟩ := hvm.2.2 _ _ h3
  exact ⟨comp, c, k', by rw [hvm.findClass]; exact h1, by rw [hvm.findClass]; exact h2, hk', by rw [he]; exact h4⟩
/-- the text of the states' letters: its object kw, its bytes kb -/
def tw_WS (kw kb : Nat) (A : Nat → Prop) (U : State) (H : Heap) : Prop := vk_R RX6 285 "widsr" kw U ∧ va_O "java/lang/String" kw A U H ∧ va_OF "java/lang/String" "coder" "B" (.int 0) kw A U H ∧ va_OF "java/lang/String" "value" "[B" (.ref kb) kw A U H ∧ va_T .byte kb 5 (fun j => .int (([119, 105, 100, 115, 114] : List Int32).getD j 0)) A U H
def tw_nms : List (String × Nat × MethodName × String) := [(RX0, 40, yX3_bit, RX3)]
/-- WHAT EVERY METHOD MAY COUNT ON, whatever its cells are -/
def tw_F (em kw kb : Nat) (A : Nat → Prop) (U : State) : Prop :=
  vx_Zq Bundle.tN "UNASSIGNED_STACK" Bundle.steD A U U.heap ∧ vx_Zq Bundle.tN "SUPPRESSED_SENTINEL" Bundle.listD A U U.heap ∧ (∀ w ∈ tw_words, va_Nw w U) ∧ (∀ q ∈ tw_strs, ∃ sa, vk_R RX3 q.1 q.2 sa U) ∧
  va_Z "java/util/ArrayList" "DEFAULTCAPACITY_EMPTY_ELEMENTDATA" "[Ljava/lang/Object;" (.ref em) A U U.heap ∧ va_T (.object "java/lang/Object") em 0 (fun _ => .null) A U U.heap ∧ va_Z "java/lang/String" "COMPACT_STRINGS" "Z" (.int 1) A U U.heap ∧ va_AO "java/lang/Object" U ∧
  (∀ q ∈ tw_nfs, va_Nw (.fieldLinkNest q.1 q.2.1 q.2.2.1 q.2.2.2.1 q.2.2.2.2.1 q.2.2.2.2.2) U) ∧ (∀ q ∈ tw_ncs, va_Nc q.1 q.2 U) ∧ (∀ q ∈ tw_nms, va_Nw (.methodLinkNest q.1 q.2.1 q.2.2.1 q.2.2.2) U) ∧ tw_WS kw kb A U U.heap ∧ va_AO "TowerliftryModel$Car" U ∧ tw_AA (.object "TowerliftryModel$Car") U
theorem tw_warm {w : Cond} {s U : State} (hf : tw_face w = true) (hW : s.WarmedH U.vm) (h : va_Nw w s) : va_Nw w U := by
  simp only [tw_face, Bool.and_eq_true] at hf
  exact va_tabs hf.1 (rfl : (s.setVm U.vm).vm = U.vm) (Cond.before_shiftedFace (State.Shifted.of_warmed hW) w hf.2 h)
theorem tw_F.go {em kw kb : Nat} {A A' : Nat → Prop} {s U : State} {H : Heap} {locs : List Loc} (h : tw_F em kw kb A s) (hS : va_S A s.heap H locs) (hAA : ∀ q, A' q → A q) (hU : U.heap = H) (hW : s.WarmedH U.vm) : tw_F em kw kb A' U := by
  obtain ⟨h1, h2, h3, h4, h5, h6, h7, h8, h9, h10, h11, ⟨h12, h13, h14, h15, h16⟩, h17, h18⟩ := h
  subst hU
  have hq : ∀ a : Nat, a < s.heap.size → ¬ A a → U.heap[a]? = s.heap[a]? := hS.2.1
  have hv := hW.alike
  exact ⟨((h1.moved hv).kept hq).narrow hAA, ((h2.moved hv).kept hq).narrow hAA, fun w hw => tw_warm (tw_words_ok w hw) hW (h3 w hw), fun q hq9 => by obtain ⟨sa, h⟩ := h4 q hq9; exact ⟨sa, h.warm hW⟩, ((h5.moved hv).kept hq).narrow hAA, ((h6.moved hv).kept hq).narrow hAA, ((h7.moved hv).kept hq).narrow hAA, h8.moved hv, fun q hq9 => (h9 q hq9).warmF hW, fun q hq9 => (h10 q hq9).moved hv, fun q hq9 => (h11 q hq9).warmM hW, ⟨h12.warm hW, ((h13.moved hv).kept hq).narrow hAA, ((h14.moved hv).kept hq).narrow hAA, ((h15.moved hv).kept hq).narrow hAA, ((h16.moved hv).kept hq).narrow hAA⟩, h17.moved hv, h18.moved hv⟩
theorem tw_F.same {em kw kb : Nat} {A : Nat → Prop} {s U : State} (h : tw_F em kw kb A s) (hh : U.heap = s.heap) (hv : U.vm = s.vm) : tw_F em kw kb A U := by
  obtain ⟨h1, h2, h3, h4, h5, h6, h7, h8, h9, h10, h11, ⟨h12, h13, h14, h15, h16⟩, h17, h18⟩ := h
  have ha : s.vm.Alike U.vm := by rw [hv]; exact Vm.Alike.refl s.vm
  unfold tw_F tw_WS
  rw [hh]
  exact ⟨h1.moved ha, h2.moved ha, fun w hw => va_Nw.same (by have := tw_words_ok w hw; simp only [tw_face, Bool.and_eq_true] at this; exact this.1) hv.symm (h3 w hw), fun q hq9 => by obtain ⟨sa, h⟩ := h4 q hq9; exact ⟨sa, vk_R.same hv h⟩, va_Z.moved ha h5, va_T.moved ha h6, va_Z.moved ha h7, h8.moved ha, fun q hq9 => va_Nw.same rfl hv.symm (h9 q hq9), fun q hq9 => (h10 q hq9).moved ha, fun q hq9 => va_Nw.same rfl hv.symm (h11 q hq9), ⟨vk_R.same hv h12, h13.moved ha, h14.moved ha, h15.moved ha, h16.moved ha⟩, h17.moved ha, h18.moved ha⟩
/-- a method's start: its cells, apart; its array classes; what every method may count on -/
def tw_Pre (em kw kb : Nat) (D : va_G) (sz : Nat) (ws : va_W) (ts : tw_T) (U : State) : Prop := U.heap.size = sz ∧ va_P D vwCl ws U.heap ∧ va_K D vwCl ts U ∧ va_D (fun _ => True) ws ∧ tw_F em kw kb (va_A ws sz) U
theorem tw_blind {em kw kb : Nat} {D : va_G} {sz : Nat} {ws : va_W} {ts : tw_T} {av : List Value} : FrameBlind (va_Pc av (tw_Pre em kw kb D sz ws ts)) := by
  intro a U g mk q
  obtain ⟨q0, q1, q2, q3, q4, q5⟩ := q
  exact ⟨q0, q1, q2, va_K.moved (u := U) (U := U.calling g mk a) (Vm.Alike.refl U.vm) q3, q4, q5.same rfl rfl⟩
theorem tw_preS {em kw kb : Nat} {D : va_G} {A : Nat → Prop} {s : State} {H : Heap} {locs : List Loc} {wc : va_W} {tc : tw_T} {av : List Value} (hF : tw_F em kw kb A s) (hS : va_S A s.heap H locs) (hFc : ∀ q, va_A wc H.size q → A q) (hPc : va_P D vwCl wc H) (hKc : va_K D vwCl tc s) (hDc : va_D A wc) : PreS s H (va_Pc av (tw_Pre em kw kb D H.size wc tc)) av :=
  ⟨tw_blind, fun U hU hW => ⟨rfl, by rw [hU], by rw [hU]; exact hPc, va_K.moved hW.alike hKc, hDc.weaken (fun _ _ _ _ => trivial), hF.go hS hFc hU hW⟩⟩
theorem tw_preV {em kw kb : Nat} {D : va_G} {A : Nat → Prop} {s : State} {H : Heap} {locs : List Loc} {wc : va_W} {tc : tw_T} {b : Nat} {av : List Value} {C : String} (hF : tw_F em kw kb A s) (hS : va_S A s.heap H locs) (hFc : ∀ q, va_A wc H.size q → A q) (hPc : va_P D vwCl wc H) (hKc : va_K D vwCl tc s) (hDc : va_D A wc) (hr : ∃ cell : Cell, H[b]? = some cell ∧ cell.vm.isStatics = false ∧ s.vm.findClass C = some cell.cls) : PreV s H C b (va_Pc (.ref b :: av) (tw_Pre em kw kb D H.size wc tc)) av :=
  ⟨tw_blind, hr, fun U hU hW => ⟨rfl, by rw [hU], by rw [hU]; exact hPc, va_K.moved hW.alike hKc, hDc.weaken (fun _ _ _ _ => trivial), hF.go hS hFc hU hW⟩⟩
/-- behind a call: the caller's other cells, and what came back -/
theorem tw_join {D : va_G} {A : Nat → Prop} {s t : State} {ws wc wr : va_W} {tys : tw_T} {u : tw_U} {H H1 : Heap} (hP : va_P D vwCl ws H) (hD : va_D A ws) (hK : va_K D vwCl tys s) (isC isR : List Nat) (hC : isC.map (fun i => ws[i]?) = wc.map some) (hR : isR.map (fun i => ws[i]?) = wr.map some) (hn : va_nd isR = true) (hdis : ∀ i ∈ isR, i ∉ isC)
    (hk : ∀ q : Nat, q < H.size → ¬ va_A wc H.size q → H1[q]? = H[q]?) (hFc : ∀ q, va_A wc H.size q → A q) (ht : t.heap = H1) (hvm : s.vm.Alike t.vm) (hB : tw_B D (va_A wc H.size) u t) : va_P D vwCl (wr ++ u.1) H1 ∧ va_D A (wr ++ u.1) ∧ va_K D vwCl (tys ++ u.2) s := by
  obtain ⟨b1, b2, b3⟩ := hB
  rw [ht] at b1
  obtain ⟨j1, j2⟩ := va_join hP hD isC isR hC hR hn hdis hk hFc b1 b3
  exact ⟨j1, j2, hK.app (va_K.moved hvm.symm b2)⟩
theorem tw_exc {D : va_G} {A : Nat → Prop} {s : State} {ws : va_W} {ts : tw_T} {H : Heap} {locs : List Loc} {cls : String} (hP : va_P D vwCl ws H) (hK : va_K D vwCl ts s) (hD : va_D A ws) (hS : va_S A s.heap H locs) (px : String × tw_U → Prop) (hp : px (cls, (ws, ts))) : ∀ t : State, s.vm.Alike t.vm → H.size ≤ t.heap.size → (∀ q : Nat, q < H.size → t.heap[q]? = H[q]?) → vx_X px (tw_BX D A) A cls s t :=
  fun _ hvm hz hq => ⟨(cls, (ws, ts)), hp, ⟨rfl, hP.kept (fun k q hk => hq q.1 (hP k q hk).lt), va_K.moved hvm hK, hD⟩, ⟨Nat.le_trans hS.1 hz, fun q h1 h2 => (hq q (Nat.lt_of_lt_of_le h1 hS.1)).trans (hS.2.1 q h1 h2)⟩⟩
theorem tw_exc2 {D : va_G} {A : Nat → Prop} {s : State} {ws : va_W} {ts : tw_T} {H : Heap} {locs : List Loc} {cls : String} (hP : va_P D vwCl ws H) (hK : va_K D vwCl ts s) (hD : va_D A ws) (hS : va_S A s.heap H locs) (px : String × tw_U → Prop) (hp : px (cls, (ws, ts))) : ∀ t : State, t.heap = H → s.vm.Alike t.vm → vx_X px (tw_BX D A) A cls s t :=
  fun _ ht hvm => ⟨(cls, (ws, ts)), hp, ⟨rfl, by rw [ht]; exact hP, va_K.moved hvm hK, hD⟩, hS.F ht⟩
theorem tw_str {em kw kb : Nat} {A : Nat → Prop} {s : State} (hF : tw_F em kw kb A s) {q : Nat × String} (h : q ∈ tw_strs) : ∃ sa, vk_R RX3 q.1 q.2 sa s := hF.2.2.2.1 q h
theorem tw_hat {em kw kb : Nat} {A : Nat → Prop} {s : State} {args : Array Value} {L : List Cond} (hF : tw_F em kw kb A s) (h1 : ∀ w ∈ L.filter goodWord, w.before args s = true) (h2 : ∀ w ∈ L.filter (fun w => !goodWord w), w ∈ tw_words) : ∀ w ∈ L, w.before args s = true :=
  vx_hat h1 h2 (fun w hw => va_Nw.use (by have := tw_words_ok w hw; simp only [tw_face, Bool.and_eq_true] at this; exact this.1) (hF.2.2.1 w hw))
theorem tw_w {em kw kb : Nat} {A : Nat → Prop} {s : State} {args : Array Value} {w : Cond} (hF : tw_F em kw kb A s) (h : w ∈ tw_words) : w.before args s = true := va_Nw.use (by have := tw_words_ok w h; simp only [tw_face, Bool.and_eq_true] at this; exact this.1) (hF.2.2.1 w h)
theorem tw_cs {em kw kb : Nat} {A : Nat → Prop} {s : State} {args : Array Value} (hF : tw_F em kw kb A s) {q : String × String} (h : Cond.castable q.1 q.2 ∈ tw_words) : (Cond.castable q.1 q.2).before args s = true := tw_w hF h
theorem tw_ca {em kw kb : Nat} {A : Nat → Prop} {s : State} (hF : tw_F em kw kb A s) {q : String × String} (h : Cond.castable q.1 q.2 ∈ tw_words) : va_Nw (.castable q.1 q.2) s := hF.2.2.1 _ h
theorem tw_nc {em kw kb : Nat} {A : Nat → Prop} {s : State} (hF : tw_F em kw kb A s) {q : String × String} (h : q ∈ tw_ncs) : va_Nc q.1 q.2 s := hF.2.2.2.2.2.2.2.2.2.1 q h
theorem tw_nf {em kw kb : Nat} {A : Nat → Prop} {s : State} {args : Array Value} (hF : tw_F em kw kb A s) {q : String × Nat × String × String × String × String} (h : q ∈ tw_nfs) : (Cond.fieldLinkNest q.1 q.2.1 q.2.2.1 q.2.2.2.1 q.2.2.2.2.1 q.2.2.2.2.2).before args s = true := va_Nw.use rfl (hF.2.2.2.2.2.2.2.2.1 q h)
theorem tw_ao {em kw kb : Nat} {A : Nat → Prop} {s : State} (hF : tw_F em kw kb A s) : va_AO "java/lang/Object" s := hF.2.2.2.2.2.2.2.1
theorem tw_fw {em kw kb : Nat} {A : Nat → Prop} {s : State} (hF : tw_F em kw kb A s) : va_Fw RJx35411 ⟨"java/util/Iterator", "hasNext", "()Z"⟩ yJx35411_hasNext_aae02 s :=
  va_Fw.of (A := #[]) (tw_w hF (by decide +kernel)) (tw_w hF (by decide +kernel)) (tw_w hF (by decide +kernel)) (tw_w hF (by decide +kernel)) (tw_w hF (by decide +kernel))
theorem tw_upn {k : Nat} : va_up (fun _ => (none : Option Nat)) k none = fun _ => none := by
  funext j
  by_cases h : j = k <;> simp [va_up, h]
theorem tw_nm {em kw kb : Nat} {A : Nat → Prop} {s : State} (hF : tw_F em kw kb A s) {q : String × Nat × MethodName × String} (h : q ∈ tw_nms) : va_Nw (.methodLinkNest q.1 q.2.1 q.2.2.1 q.2.2.2) s := hF.2.2.2.2.2.2.2.2.2.2.1 q h
theorem tw_ws {em kw kb : Nat} {A : Nat → Prop} {s : State} (hF : tw_F em kw kb A s) : tw_WS kw kb A s s.heap := hF.2.2.2.2.2.2.2.2.2.2.2.1
theorem tw_aoC {em kw kb : Nat} {A : Nat → Prop} {s : State} (hF : tw_F em kw kb A s) : va_AO "TowerliftryModel$Car" s := hF.2.2.2.2.2.2.2.2.2.2.2.2.1
theorem tw_aa {em kw kb : Nat} {A : Nat → Prop} {s : State} (hF : tw_F em kw kb A s) : tw_AA (.object "TowerliftryModel$Car") s := hF.2.2.2.2.2.2.2.2.2.2.2.2.2
theorem tw_wsr {em kw kb : Nat} {A : Nat → Prop} {s : State} {H : Heap} {locs : List Loc} (hF : tw_F em kw kb A s) (hS : va_S A s.heap H locs) : ∃ cell : Cell, H[kw]? = some cell ∧ cell.vm.isStatics = false ∧ s.vm.findClass "java/lang/String" = some cell.cls := by
  obtain ⟨cell, h1, h2, h3, -⟩ := (tw_ws hF).2.1.kept hS.2.1
  exact ⟨cell, h1, h2, h3⟩
section TWR
variable {p : Program} {l : Launch} {e : Env} {R : Room} {s : State} {m : MethodId} {args : Array Value} {below : List Frame} {meth : Method} {c : Code} {H : Heap} {locs : List Loc} {cells slots : Nat} {Q : State → Prop}
variable {cc : ByteArray} {pc : Nat} {ls : Array Slot} {rest : List Value} {D : va_G} {cl : List vw_C} {A : Nat → Prop} {a : Nat} {tys : List (ClassId × FieldType)} {ws : va_W} {H0 : Heap}
/-- ldc_w of a text -/
theorem tw_ldcSW (hexec : p.tables.exec = Jvm.exec) (hb : c.code = cc) {own tx : String} {index q : Nat} (hown : s.vm.findClass own = some m.cls) (hZ : vk_R own index tx q s) (hdg : decode cc pc = .ok (.ldc_w index, 3))
    (k : W p l e R s m args below meth c H locs cells slots Q (F0 m (pc + 3) ls (.ref q :: rest))) : W p l e R s m args below meth c H locs cells slots Q (F0 m pc ls rest) := by
  intro T hT X
  obtain ⟨t, a1, b1⟩ := k T hT X
  exact ⟨t, X.ldcStringW hexec hown (text := tx) (a := q) hZ.1 hZ.2 (g := F0 m pc ls rest) rfl (by rw [hb]; exact hdg) t a1, b1⟩
/-- an entry of a row of rows -/
theorem tw_aldA (hexec : p.tables.exec = Jvm.exec) (hb : c.code = cc) (hK : va_K D cl tys s) (hP : va_P D cl ws H) (q0 t0 : Nat) {cA : ClassId} {ty : FieldType} {n : Nat} {f : Nat → Option Nat} (ha : ws[q0]? = some (a, .inl (cA, n, .inr (.inr (.inr (.inr f)))))) (ht : tys[t0]? = some (cA, .array ty)) {i : Int32} (hin : vp_in i n) (hdg : decode cc pc = .ok (.aaload, 1))
    (kk : W p l e R s m args below meth c H locs cells slots Q (F0 m (pc + 1) ls (va_rf (f i.toNatClampNeg) :: rest))) : W p l e R s m args below meth c H locs cells slots Q (F0 m pc ls (.int i :: .ref a :: rest)) := by
  have hlt : i.toNatClampNeg < n := Nat.not_le.mp fun q => hin (Or.inr q)
  exact W.aald (v := va_rf (f i.toNatClampNeg)) (ty := .array ty) hexec hb (hP q0 _ ha) ((hK.2 t0 _ ht).1 n (fun j => va_rf (f j))) rfl (fun q => by cases q) (by show ¬ (i < 0 ∨ (arrV _ _ _).slots.size ≤ _); rw [arrV_size]; exact hin) (by show (arrV _ _ _).slots[_]? = _; rw [arrV_read _ _ hlt]) rfl rfl hdg kk
end TWR
theorem tw_m1 {p : Int32} (h1 : ¬ p < 0) (h2 : ¬ (-1 : Int32) < p) : False := by
  rw [Int32.lt_iff_toInt_lt] at h1 h2
  have e0 : (0 : Int32).toInt = 0 := by decide
  have e1 : (-1 : Int32).toInt = -1 := by decide
  rw [e0] at h1
  rw [e1] at h2
  omega
/-- two rows -/
def tw_two (a b : Nat) (k : Nat) : Option Nat := if k = 0 then some a else some b
theorem tw_two0 {a b : Nat} : tw_two a b ((0 : Int32).toNatClampNeg) = some a := by rw [show (0 : Int32).toNatClampNeg = 0 by decide]; rfl
theorem tw_two1 {a b : Nat} : tw_two a b ((1 : Int32).toNatClampNeg) = some b := by rw [show (1 : Int32).toNatClampNeg = 1 by decide]; rfl
theorem tw_in9 {p : Int32} {n : Nat} (h : ¬ p < 0 ∧ ¬ 9 < p) (hn : 9 < n) (hn2 : n < 2 ^ 31) : vp_in p n := by
  obtain ⟨h1, h2⟩ := h
  rw [Int32.lt_iff_toInt_lt] at h1 h2
  have e0 : (0 : Int32).toInt = 0 := by decide
  have e1 : (9 : Int32).toInt = 9 := by decide
  rw [e0] at h1
  rw [e1] at h2
  exact vp_in_iff.mpr ⟨by omega, by omega⟩
