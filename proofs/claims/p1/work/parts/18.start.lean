theorem dL_law_2056 : decode cL_law 2056 = .ok (.iinc 5 6, 3) := by decide +kernel
theorem dL_law_2059 : decode cL_law 2059 = .ok (.goto (-2031), 3) := by decide +kernel
theorem dL_law_28 : decode cL_law 28 = .ok (.iload 5, 2) := by decide +kernel
theorem dL_law_30 : decode cL_law 30 = .ok (.aload_n 0, 1) := by decide +kernel
theorem dL_law_31 : decode cL_law 31 = .ok (.arraylength, 1) := by decide +kernel
theorem dL_law_32 : decode cL_law 32 = .ok (.bipush 6, 2) := by decide +kernel
theorem dL_law_34 : decode cL_law 34 = .ok (.isub, 1) := by decide +kernel
theorem dL_law_35 : decode cL_law 35 = .ok (.if_icmp .gt 2027, 3) := by decide +kernel
theorem dL_law_2062 : decode cL_law 2062 = .ok (.iconst 1, 1) := by decide +kernel
theorem dL_law_2063 : decode cL_law 2063 = .ok (.ireturn, 1) := by decide +kernel
-- the entry of the law: what the tables and the given start say, in the form that the methods count on
theorem tw_isb : ∀ q ∈ tw_strs, Cond.exactly (.string RX3 q.1) "java/lang/String" ∈ flatC (Jvm.Cond.and given_1 narrow_1) := by decide +kernel
theorem tw_isr : ∀ q ∈ tw_strs, Cond.stringRef RX3 q.1 q.2 ∈ lw_tbl := by decide +kernel
theorem tw_iwd : ∀ w ∈ tw_words, w ∈ lw_tbl := by decide +kernel
theorem tw_inf : ∀ q ∈ tw_nfs, Cond.fieldLinkNest q.1 q.2.1 q.2.2.1 q.2.2.2.1 q.2.2.2.2.1 q.2.2.2.2.2 ∈ lw_tbl := by decide +kernel
theorem tw_inm : ∀ q ∈ tw_nms, Cond.methodLinkNest q.1 q.2.1 q.2.2.1 q.2.2.2 ∈ lw_tbl := by decide +kernel
theorem tw_inc : ∀ q ∈ tw_ncs, Cond.not (.castable q.1 q.2) ∈ flatC (Jvm.Cond.and given_1 narrow_1) := by decide +kernel
theorem tw_iK : ∀ q ∈ vwCl, (∀ w ∈ u_ws q.1 q.2.1 q.2.2, w ∈ lw_tbl) ∧ ∃ n : Nat, Cond.instantiable q.1 n ∈ lw_tbl := List.forall_mem_cons.mpr ⟨⟨by decide +kernel, 4, by decide +kernel⟩, List.forall_mem_cons.mpr ⟨⟨by decide +kernel, 6, by decide +kernel⟩, List.forall_mem_cons.mpr ⟨⟨by decide +kernel, 4, by decide +kernel⟩, List.forall_mem_cons.mpr ⟨⟨by decide +kernel, 3, by decide +kernel⟩, List.forall_mem_cons.mpr ⟨⟨by decide +kernel, 19, by decide +kernel⟩, List.forall_mem_cons.mpr ⟨⟨by decide +kernel, 2, by decide +kernel⟩, List.forall_mem_cons.mpr ⟨⟨by decide +kernel, 7, by decide +kernel⟩, List.forall_mem_cons.mpr ⟨⟨by decide +kernel, 12, by decide +kernel⟩, List.forall_mem_cons.mpr ⟨⟨by decide +kernel, 14, by decide +kernel⟩, List.forall_mem_cons.mpr ⟨⟨by decide +kernel, 8, by decide +kernel⟩, List.forall_mem_cons.mpr ⟨⟨by decide +kernel, 12, by decide +kernel⟩, fun _ h => absurd h List.not_mem_nil⟩⟩⟩⟩⟩⟩⟩⟩⟩⟩⟩
theorem tw_start {p : Program} {s : State} {m : MethodId} {meth : Method} {c : Code} {b L : Nat} {xs : Nat → Int32} (C0 : lw_At p s m meth c b L xs) {A : Nat → Prop} (hAe : A = fun q : Nat => s.heap.size ≤ q) : ∃ (em kw kb : Nat) (D : va_G), va_K D vwCl [] s ∧ tw_F em kw kb A s := by
  obtain ⟨hx, hb, hr, hml, hown, hts, hX, hbl, hlocks, hgv⟩ := C0
  have hg := flat_of_before _ hgv
  have hAn : ∀ a : Nat, a < s.heap.size → ¬ A a := fun a h => by rw [hAe]; exact Nat.not_le.mpr h
  obtain ⟨dK, hKn⟩ : ∃ d : Nat → ClassId × (Nat → Nat), ∀ (k : Nat) (q : vw_C), vwCl[k]? = some q → u_Kn s q.1 q.2.1 q.2.2 (d k).1 (d k).2 := by
    refine Classical.axiomOfChoice (r := fun (k : Nat) (d : ClassId × (Nat → Nat)) => ∀ q : vw_C, vwCl[k]? = some q → u_Kn s q.1 q.2.1 q.2.2 d.1 d.2) (fun k => ?_) |>.imp fun d hd k q hq => hd k q hq
    cases hk : vwCl[k]? with
    | none => exact ⟨(m.cls, fun _ => 0), fun q h => by cases h⟩
    | some q =>
      obtain ⟨h1, n9, h2⟩ := tw_iK q (List.mem_of_getElem? hk)
      obtain ⟨cC, iS, h⟩ := u_known (C := q.1) (T := q.2.1) (N := q.2.2) (n := n9) hts h1 (hts _ h2)
      exact ⟨(cC, iS), fun q' h' => by cases h'; exact h⟩
  -- the text of the states' letters
  obtain ⟨kw, hkw, hkO, hkR⟩ : ∃ kw : Nat, (Term.string RX6 285).eval #[Value.ref b] s none [] s = some (.ref kw) ∧ va_O "java/lang/String" kw A s s.heap ∧ vk_R RX6 285 "widsr" kw s := by
    have hex : (Cond.exactly (.string RX6 285) "java/lang/String").before #[Value.ref b] s = true := hg _ (by decide +kernel)
    obtain ⟨a, c9, cA, kA, q1, q2, q3, q4, q5, q6, -⟩ := Cond.exactly_spec (args := #[Value.ref b]) (first := s) (o := none) (s := s) (idx := []) (t := .string RX6 285) (cls := "java/lang/String") hex
    exact ⟨a, q1, va_Oof hex q1 hAn, vk_R.of (hts (.stringRef RX6 285 "widsr") (by decide +kernel)) q1⟩
  have hco : (Term.field (.string RX6 285) "java/lang/String" "coder" "B").eval #[Value.ref b] s none [] s = some (.int 0) := va_eqt (hg _ (by decide +kernel))
  obtain ⟨kb, hkb, hkT⟩ : ∃ kb : Nat, (Term.field (.string RX6 285) "java/lang/String" "value" "[B").eval #[Value.ref b] s none [] s = some (.ref kb) ∧ va_T .byte kb 5 (fun j => .int (([119, 105, 100, 115, 114] : List Int32).getD j 0)) A s s.heap := by
    refine va_Tof (by decide) (hg (.arrayOf (.field (.string RX6 285) "java/lang/String" "value" "[B") .byte) (by decide +kernel)) (va_eqt (hg _ (by decide +kernel))) (fun j hj => ?_) hAn
    match j, hj with
    | 0, _ => exact va_eqt (z := 119) (hg _ (by decide +kernel))
    | 1, _ => exact va_eqt (z := 105) (hg _ (by decide +kernel))
    | 2, _ => exact va_eqt (z := 100) (hg _ (by decide +kernel))
    | 3, _ => exact va_eqt (z := 115) (hg _ (by decide +kernel))
    | 4, _ => exact va_eqt (z := 114) (hg _ (by decide +kernel))
    | j + 5, h => exact absurd h (by omega)
  -- the empty list's array
  obtain ⟨em, hem, heT⟩ : ∃ em : Nat, (Term.static "java/util/ArrayList" "DEFAULTCAPACITY_EMPTY_ELEMENTDATA" "[Ljava/lang/Object;").eval #[Value.ref b] s none [] s = some (.ref em) ∧ va_T (.object "java/lang/Object") em 0 (fun _ => .null) A s s.heap :=
    va_Tof (by decide) (hg (.arrayOf (.static "java/util/ArrayList" "DEFAULTCAPACITY_EMPTY_ELEMENTDATA" "[Ljava/lang/Object;") (.object "java/lang/Object")) (by decide +kernel)) (va_eqt (hg _ (by decide +kernel))) (fun j hj => absurd hj (Nat.not_lt_zero _)) hAn
  refine ⟨em, kw, kb, (fun k => (dK k).1, fun k => (dK k).2), ⟨hKn, fun k q h => by simp at h⟩, ?_⟩
  refine ⟨vx_Zqof (hts (.laysStatic Bundle.tN "UNASSIGNED_STACK" Bundle.steD) (by decide +kernel)) (hts (.initialized Bundle.tN) (by decide +kernel)) (hg (.isRef (.static Bundle.tN "UNASSIGNED_STACK" Bundle.steD)) (by decide +kernel)) hAn, vx_Zqof (hts (.laysStatic Bundle.tN "SUPPRESSED_SENTINEL" Bundle.listD) (by decide +kernel)) (hts (.initialized Bundle.tN) (by decide +kernel)) (hg (.isRef (.static Bundle.tN "SUPPRESSED_SENTINEL" Bundle.listD)) (by decide +kernel)) hAn, fun w hw => va_Nw.of (by have := tw_words_ok w hw; simp only [tw_face, Bool.and_eq_true] at this; exact this.1) (hts w (tw_iwd w hw)), fun q hq => ?_, va_Zof (hts (.laysStatic "java/util/ArrayList" "DEFAULTCAPACITY_EMPTY_ELEMENTDATA" "[Ljava/lang/Object;") (by decide +kernel)) (hts (.initialized "java/util/ArrayList") (by decide +kernel)) hem hAn, heT, va_Zof (hts (.laysStatic "java/lang/String" "COMPACT_STRINGS" "Z") (by decide +kernel)) (hts (.initialized "java/lang/String") (by decide +kernel)) (va_eqt (hg _ (by decide +kernel))) hAn, va_AO.of (hts (.arrayOver (.object "java/lang/Object")) (by decide +kernel)), fun q hq => va_Nw.of rfl (hts _ (tw_inf q hq)), fun q hq => va_Nc.of (hg _ (tw_inc q hq)), fun q hq => va_Nw.of rfl (hts _ (tw_inm q hq)), ⟨hkR, hkO, vk_OFof hkw hco hAn, vk_OFof hkw hkb hAn, hkT⟩, va_AO.of (hts (.arrayOver (.object "TowerliftryModel$Car")) (by decide +kernel)), tw_AA.of (hts (.arrayOver (.array (.object "TowerliftryModel$Car"))) (by decide +kernel))⟩
  have hex : (Cond.exactly (.string RX3 q.1) "java/lang/String").before #[Value.ref b] s = true := hg _ (tw_isb q hq)
  obtain ⟨a, c9, cA, kA, q1, q2, q3, q4, q5, q6, -⟩ := Cond.exactly_spec (args := #[Value.ref b]) (first := s) (o := none) (s := s) (idx := []) (t := .string RX3 q.1) (cls := "java/lang/String") hex
  exact ⟨a, vk_R.of (hts _ (tw_isr q hq)) q1⟩
-- numbers
theorem tw_i0 : (0 : Int32).toInt = 0 := by decide
theorem tw_i1 : (1 : Int32).toInt = 1 := by decide
theorem tw_i2 : (2 : Int32).toInt = 2 := by decide
theorem tw_i3 : (3 : Int32).toInt = 3 := by decide
theorem tw_i4 : (4 : Int32).toInt = 4 := by decide
theorem tw_i9 : (9 : Int32).toInt = 9 := by decide
theorem tw_i10 : (10 : Int32).toInt = 10 := by decide
theorem tw_i23 : (23 : Int32).toInt = 23 := by decide
theorem tw_i97 : (97 : Int32).toInt = 97 := by decide
theorem tw_i99 : (99 : Int32).toInt = 99 := by decide
theorem tw_i100 : (100 : Int32).toInt = 100 := by decide
theorem tw_i101 : (101 : Int32).toInt = 101 := by decide
theorem tw_i105 : (105 : Int32).toInt = 105 := by decide
theorem tw_i114 : (114 : Int32).toInt = 114 := by decide
theorem tw_i115 : (115 : Int32).toInt = 115 := by decide
theorem tw_i119 : (119 : Int32).toInt = 119 := by decide
theorem tw_i122 : (122 : Int32).toInt = 122 := by decide
theorem tw_i200 : (200 : Int32).toInt = 200 := by decide
theorem tw_i255 : (255 : Int32).toInt = 255 := by decide
theorem tw_i999 : (999 : Int32).toInt = 999 := by decide
theorem tw_i2000 : (2000 : Int32).toInt = 2000 := by decide
theorem tw_eqi {a b : Int32} : a = b ↔ a.toInt = b.toInt := Int32.toInt_inj.symm
theorem tw_bm (x : Int) (h1 : -2147483648 ≤ x) (h2 : x < 2147483648) : x.bmod (2 ^ 32) = x := by
  rw [Int.bmod_def]
  split <;> omega
theorem tw_rem2 (p : Int32) : p.toInt < 200 ∨ 2000 < p.toInt ∨ (p - p / (2 : Int32) * (2 : Int32)).toInt = 0 ∨ (p - p / (2 : Int32) * (2 : Int32)).toInt = 1 := by
  by_cases h1 : p.toInt < 200
  · exact Or.inl h1
  · by_cases h2 : 2000 < p.toInt
    · exact Or.inr (Or.inl h2)
    · have hd : (p / (2 : Int32)).toInt = p.toInt / 2 := by
        rw [Int32.toInt_div, tw_i2, Int.tdiv_eq_ediv_of_nonneg (by omega)]
        exact tw_bm _ (by omega) (by omega)
      have hm : (p / (2 : Int32) * (2 : Int32)).toInt = p.toInt / 2 * 2 := by
        rw [Int32.toInt_mul, hd, tw_i2]
        exact tw_bm _ (by omega) (by omega)
      rw [Int32.toInt_sub, hm, tw_bm _ (by omega) (by omega)]
      omega
theorem tw_b8 (p : Int32) : p.toInt < 0 ∨ 255 < p.toInt ∨ (p.toInt8.toInt32.toInt = p.toInt ∧ p.toInt < 128) ∨ (p.toInt8.toInt32.toInt = p.toInt - 256 ∧ 128 ≤ p.toInt) := by
  by_cases h1 : p.toInt < 0
  · exact Or.inl h1
  · by_cases h2 : 255 < p.toInt
    · exact Or.inr (Or.inl h2)
    · have he : p.toInt8.toInt32.toInt = p.toInt.bmod (2 ^ 8) := by
        rw [Int8.toInt_toInt32, Int32.toInt_toInt8]
      rw [he, Int.bmod_def]
      split <;> omega
theorem tw_updL {f : Nat → Int64} {k : Nat} {v : Int64} : vp_updL f k v k = v := by simp [vp_updL]
theorem tw_cmp {v : Int64} : lg_cmp v v = 0 := by simp [lg_cmp]
theorem tw_32 (v : Int32) : 0 ≤ (v &&& 31).toInt ∧ (v &&& 31).toInt < 32 := by
  have h : (v &&& 31).toBitVec = v.toBitVec &&& 31#32 := rfl
  have hn : (v &&& 31).toBitVec.toNat ≤ 31 := by rw [h, BitVec.toNat_and]; exact Nat.and_le_right
  have h2 : (v &&& 31).toInt = ((v &&& 31).toBitVec.toNat : Int) := by
    show (v &&& 31).toBitVec.toInt = _
    rw [BitVec.toInt_eq_toNat_of_lt (by omega)]
  omega
/-- the law's end, behind its one turn -/
theorem tw_tail {p : Program} {l : Launch} {e : Env} {s : State} {m : MethodId} {below : List Frame} {meth : Method} {c : Code} {b : Nat} {xs : Nat → Int32} (C0 : lw_At p s m meth c b 6 xs) {A : Nat → Prop} (hAe : A = fun q : Nat => s.heap.size ≤ q) {H : Heap} {locs : List Loc} (hS : va_S A s.heap H locs) {ls : Array Slot} (hl : lv_has ls 9 [(5, .int 0), (0, .ref b)]) : W p l e room_1 s m #[Value.ref b] below meth c H locs 20000 60000 (lw_Z below #[Value.ref b] s) (F0 m 2056 ls []) := by
  obtain ⟨hx, hb, hr, hml, hown, hts, hX, hbl, hlocks, hgv⟩ := C0
  have hbA : ¬ A b := by rw [hAe]; exact Nat.not_le.mpr hbl
  refine lv_iinc (v := 6) (lv' := [(5, .int 6), (0, .ref b)]) hx hb dL_law_2056 hl (k := 0) rfl (by decide) (by decide) rfl (fun ls hl => ?_)
  refine lv_goto (tgt := 28) hx hb dL_law_2059 (by decide) ?_
  refine lv_iload hx hb dL_law_28 (lv_at hl 0 rfl) ?_
  refine lv_aload_n hx hb dL_law_30 rfl (lv_at hl 1 rfl) ?_
  refine va_slen hx hb hX hbl hbA hS dL_law_31 ?_
  refine lv_bipush (v := 6) hx hb dL_law_32 (by decide) ?_
  refine lv_isub hx hb dL_law_34 ?_
  refine lv_icmp_gt (tgt := 2062) hx hb dL_law_35 (by decide) (fun _ => ?_) (fun c9 => absurd (by decide) c9)
  refine lv_iconst (v := 1) hx hb dL_law_2062 (by decide) ?_
  refine va_forget (fun q hq => by have h := hS.2.2 q hq; rw [hAe] at h; exact h) ?_
  refine W.widen (k := 793971) (n := 6720142) (Nat.le_of_ble_eq_true rfl) (Nat.le_of_ble_eq_true rfl) ?_
  exact lw_ret (d0 := s.drawn) (Drawn.sameBut.refl s.drawn lw_cs) hx hb hr hlocks dL_law_2063
/-- a script that holds no whole turn -/
theorem tw_short {p : Program} {l : Launch} {e : Env} {s : State} {m : MethodId} {below : List Frame} {meth : Method} {c : Code} {b L : Nat} {xs : Nat → Int32} (hL : L < 6) (C0 : lw_At p s m meth c b L xs) {A : Nat → Prop} (hAe : A = fun q : Nat => s.heap.size ≤ q) {H : Heap} {locs : List Loc} (hS : va_S A s.heap H locs) {ls : Array Slot} (hl : lv_has ls 9 [(5, .int 0), (0, .ref b)]) : W p l e room_1 s m #[Value.ref b] below meth c H locs 20000 60000 (lw_Z below #[Value.ref b] s) (F0 m 28 ls []) := by
  obtain ⟨hx, hb, hr, hml, hown, hts, hX, hbl, hlocks, hgv⟩ := C0
  have hbA : ¬ A b := by rw [hAe]; exact Nat.not_le.mpr hbl
  refine lv_iload hx hb dL_law_28 (lv_at hl 0 rfl) ?_
  refine lv_aload_n hx hb dL_law_30 rfl (lv_at hl 1 rfl) ?_
  refine va_slen hx hb hX hbl hbA hS dL_law_31 ?_
  refine lv_bipush (v := 6) hx hb dL_law_32 (by decide) ?_
  refine lv_isub hx hb dL_law_34 ?_
  have hlt : Int32.ofNat L - 6 < 0 := by
    rcases (show L = 0 ∨ L = 1 ∨ L = 2 ∨ L = 3 ∨ L = 4 ∨ L = 5 by omega) with h | h | h | h | h | h <;> subst h <;> decide
  refine lv_icmp_gt (tgt := 2062) hx hb dL_law_35 (by decide) (fun _ => ?_) (fun c9 => absurd hlt c9)
  refine lv_iconst (v := 1) hx hb dL_law_2062 (by decide) ?_
  refine va_forget (fun q hq => by have h := hS.2.2 q hq; rw [hAe] at h; exact h) ?_
  refine W.widen (k := 793971) (n := 6720142) (Nat.le_of_ble_eq_true rfl) (Nat.le_of_ble_eq_true rfl) ?_
  exact lw_ret (d0 := s.drawn) (Drawn.sameBut.refl s.drawn lw_cs) hx hb hr hlocks dL_law_2063
